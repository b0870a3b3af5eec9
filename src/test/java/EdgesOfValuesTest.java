/** The boundary cases of promises 11 to 17, sentence by sentence: the values. */
public final class EdgesOfValuesTest {
    public static void main(String[] args) {
        Checks c = new Checks();
        c.sentences(
                EdgesOfValuesTest::petitionSenders,
                EdgesOfValuesTest::petitionRank,
                EdgesOfValuesTest::petitionTicks,
                EdgesOfValuesTest::petitionBound,
                EdgesOfValuesTest::petitionBribe,
                EdgesOfValuesTest::petitionServedBefore,
                EdgesOfValuesTest::petitionKind,
                EdgesOfValuesTest::petitionNumber,
                EdgesOfValuesTest::petitionWhat,
                EdgesOfValuesTest::petitionBoth,
                EdgesOfValuesTest::peekPlaces,
                EdgesOfValuesTest::peekRefuses,
                EdgesOfValuesTest::sentByCounts,
                EdgesOfValuesTest::sentByRange,
                EdgesOfValuesTest::returnedSums,
                EdgesOfValuesTest::returnedRange,
                EdgesOfValuesTest::entryLatestFirst,
                EdgesOfValuesTest::entryFields,
                EdgesOfValuesTest::entryIndex,
                EdgesOfValuesTest::entryWhat,
                EdgesOfValuesTest::entryBoth,
                EdgesOfValuesTest::valuesOfNewBox,
                EdgesOfValuesTest::valuesOfFullBox,
                EdgesOfValuesTest::valueCounts,
                EdgesOfValuesTest::valueCoins,
                EdgesOfValuesTest::valueLoudest,
                EdgesOfValuesTest::valueEntries,
                EdgesOfValuesTest::valueSettings,
                EdgesOfValuesTest::valueServedWait,
                EdgesOfValuesTest::valueRange,
                EdgesOfValuesTest::ofRankCounts,
                EdgesOfValuesTest::ofRankRange);
        c.finish();
    }

    // ---- promise 11

    private static void petitionSenders(Checks c) {
        c.sentence("P11: 0 its sender, 1 its second sender (NONE without one)");
        PetitionBox box = new PetitionBox();
        box.send(0, 0, 9);
        box.sendBribed(7, 0, 9, 1);
        box.sendJoint(7, 0, 0, 9);
        box.sendJoint(0, 7, 0, 9);
        int[] first = {0, 7, 7, 0};
        int[] second = {PetitionBox.NONE, PetitionBox.NONE, 0, 7};
        for (int number = 0; number < 4; number++) {
            c.same("its sender", box.petition(number, 0), first[number]);
            c.same("its second sender", box.petition(number, 1), second[number]);
        }
    }

    private static void petitionRank(Checks c) {
        c.sentence("P11: 2 its rank");
        PetitionBox box = new PetitionBox();
        for (int rank = 0; rank <= 4; rank++) {
            box.send(rank, rank, 9);
            c.same("its rank", box.petition(rank, 2), rank);
        }
        box.sendBribed(5, 0, 9, 100);
        c.same("not the rank that it was sent for", box.petition(5, 2), 4);
    }

    private static void petitionTicks(Checks c) {
        c.sentence("P11: 3 the ticks that it has waited, 4 the ticks in its rank");
        PetitionBox box = Boxes.withOne(0, 200);
        c.same("waited, when it is new", box.petition(0, 3), 0);
        c.same("in its rank, when it is new", box.petition(0, 4), 0);
        box.pass(9);
        c.same("waited, before it gets louder", box.petition(0, 3), 9);
        c.same("in its rank, before it gets louder", box.petition(0, 4), 9);
        box.pass(1);
        c.same("waited, when it gets louder", box.petition(0, 3), 10);
        c.same("in its rank, when it gets louder", box.petition(0, 4), 0);
        box.pass(189);
        c.same("waited at most", box.petition(0, 3), 199);
        c.same("in rank 4 since tick 28", box.petition(0, 4), 171);
    }

    private static void petitionBound(Checks c) {
        c.sentence("P11: 5 its bound, 7 the ticks until it expires");
        for (int bound : new int[] {1, 2, 199, 200}) {
            PetitionBox box = Boxes.withOne(0, bound);
            c.same("its bound", box.petition(0, 5), bound);
            c.same("to go, when it is new", box.petition(0, 7), bound);
            if (bound > 1) {
                box.pass(bound - 1);
            }
            c.same("its bound stays", box.petition(0, 5), bound);
            c.same("to go, a tick before it expires", box.petition(0, 7), 1);
            c.same("then it expires", box.pass(1), 1);
        }
    }

    private static void petitionBribe(Checks c) {
        c.sentence("P11: 6 its bribe (0 without one)");
        PetitionBox box = new PetitionBox();
        box.send(0, 0, 9);
        box.sendJoint(1, 2, 0, 9);
        box.sendBribed(3, 0, 9, 1);
        box.sendBribed(4, 0, 9, 100);
        int[] due = {0, 0, 1, 100};
        for (int number = 0; number < 4; number++) {
            c.same("its bribe", box.petition(number, 6), due[number]);
        }
    }

    private static void petitionServedBefore(Checks c) {
        c.sentence("P11: 8 how many are served before it in the order as it is now");
        c.same("the only one", Boxes.withOne(0, 9).petition(0, 8), 0);
        PetitionBox full = Boxes.full(1);
        c.same("the first of 40", full.petition(0, 8), 0);
        c.same("the last of 40", full.petition(39, 8), 39);
        PetitionBox box = new PetitionBox();
        box.send(0, 0, 9);
        box.send(1, 3, 9);
        c.same("now", box.petition(0, 8), 1);
        box.serve();
        c.same("once the other is served", box.petition(0, 8), 0);
        box.send(2, 1, 9);
        c.same("once a louder one has come", box.petition(0, 8), 1);
    }

    private static void petitionKind(Checks c) {
        c.sentence("P11: 9 0 plain, 1 bribed, 2 joint");
        PetitionBox box = new PetitionBox();
        box.send(0, 0, 9);
        box.sendBribed(1, 0, 9, 1);
        box.sendJoint(2, 0, 0, 9);
        box.sendBribed(3, 4, 9, 100);
        box.sendJoint(0, 2, 0, 9);
        int[] due = {0, 1, 2, 1, 2};
        for (int number = 0; number < 5; number++) {
            c.same("its kind", box.petition(number, 9), due[number]);
        }
    }

    private static void petitionNumber(Checks c) {
        c.sentence("P11: Throws IndexOutOfBoundsException if no such petition is in the box");
        for (int what = 0; what <= 9; what++) {
            int w = what;
            c.range("of three", 0, 2, Checks.INDEX, () -> Boxes.with(3, 0),
                    (box, number) -> box.petition(number, w));
            c.range("of a full box", 0, 39, Checks.INDEX, () -> Boxes.full(0),
                    (box, number) -> box.petition(number, w));
            PetitionBox gone = Boxes.with(4, 0);
            gone.withdraw(1);
            gone.serve();
            c.refuses(gone, "a withdrawn one", Checks.INDEX, () -> gone.petition(1, w));
            c.refuses(gone, "a served one", Checks.INDEX, () -> gone.petition(0, w));
            c.same("one behind them", gone.petition(2, 0), 2);
            gone.pass(200);
            c.refuses(gone, "an expired one", Checks.INDEX, () -> gone.petition(2, w));
            PetitionBox empty = new PetitionBox();
            c.refuses(empty, "of an empty box", Checks.INDEX, () -> empty.petition(0, w));
            c.refuses(empty, "of an empty box", Checks.INDEX, () -> empty.petition(-1, w));
        }
    }

    private static void petitionWhat(Checks c) {
        c.sentence("P11: Throws IllegalArgumentException if what is out of range");
        c.range("what", 0, 9, Checks.ARGUMENT, () -> Boxes.withOne(0, 9),
                (box, what) -> box.petition(0, what));
    }

    private static void petitionBoth(Checks c) {
        c.sentence("P11: IndexOutOfBoundsException is listed first");
        PetitionBox box = Boxes.withOne(0, 9);
        for (int number : new int[] {Integer.MIN_VALUE, -1, 1, Integer.MAX_VALUE}) {
            for (int what : new int[] {Integer.MIN_VALUE, -1, 10, Integer.MAX_VALUE}) {
                c.refuses(box, "both wrong", Checks.INDEX, () -> box.petition(number, what));
            }
        }
    }

    // ---- promise 12

    private static void peekPlaces(Checks c) {
        c.sentence("P12: 0 for the first one, and so on");
        PetitionBox box = Boxes.with(3, 2);
        box.send(7, 4, 9);
        int[] due = {3, 0, 1, 2};
        for (int place = 0; place < 4; place++) {
            c.same("peek(" + place + ")", box.peek(place), due[place]);
        }
        c.same("the first one is the next to be served", box.serve(), 3);
    }

    private static void peekRefuses(Checks c) {
        c.sentence("P12: Throws IndexOutOfBoundsException if there are not so many");
        PetitionBox empty = new PetitionBox();
        for (int place : new int[] {Integer.MIN_VALUE, -1, 0, 1, Integer.MAX_VALUE}) {
            c.refuses(empty, "of an empty box", Checks.INDEX, () -> empty.peek(place));
        }
        c.range("of one", 0, 0, Checks.INDEX, () -> Boxes.with(1, 0), (box, p) -> box.peek(p));
        c.range("of two", 0, 1, Checks.INDEX, () -> Boxes.with(2, 0), (box, p) -> box.peek(p));
        c.range("of 39", 0, 38, Checks.INDEX, () -> Boxes.with(39, 0), (box, p) -> box.peek(p));
        c.range("of 40", 0, 39, Checks.INDEX, () -> Boxes.full(0), (box, p) -> box.peek(p));
        PetitionBox emptied = Boxes.with(2, 0);
        emptied.serve();
        c.refuses(emptied, "a place that is empty now", Checks.INDEX, () -> emptied.peek(1));
    }

    // ---- promise 13

    private static void sentByCounts(Checks c) {
        c.sentence("P13: joint ones of which it is one of both senders too");
        PetitionBox box = Boxes.withQuota(10);
        for (int sender = 0; sender <= 7; sender++) {
            c.same("none of " + sender, box.sentBy(sender), 0);
        }
        box.send(0, 0, 9);
        box.sendBribed(0, 0, 9, 9);
        box.sendJoint(0, 7, 0, 9);
        box.sendJoint(7, 0, 0, 9);
        box.sendJoint(7, 1, 0, 9);
        int[] due = {4, 1, 0, 0, 0, 0, 0, 3};
        for (int sender = 0; sender <= 7; sender++) {
            c.same("of " + sender, box.sentBy(sender), due[sender]);
        }
        box.serve();
        c.same("once one is served", box.sentBy(0), 3);
        for (int i = 0; i < 7; i++) {
            box.send(0, 0, 9);
        }
        c.same("as many as there can be", box.sentBy(0), 10);
    }

    private static void sentByRange(Checks c) {
        c.sentence("P13: Throws IllegalArgumentException if sender is out of range");
        c.range("of an empty box", 0, 7, Checks.ARGUMENT, Boxes::empty, (box, s) -> box.sentBy(s));
        c.range("of a full box", 0, 7, Checks.ARGUMENT, () -> Boxes.full(0),
                (box, s) -> box.sentBy(s));
    }

    // ---- promise 14

    private static void returnedSums(Checks c) {
        c.sentence("P14: Returns what was returned to a sender so far.");
        PetitionBox box = new PetitionBox();
        box.sendBribed(0, 0, 200, 100);
        box.sendBribed(7, 0, 1, 99);
        box.sendBribed(7, 0, 200, 7);
        for (int sender = 0; sender <= 7; sender++) {
            c.same("nothing yet", box.returned(sender), 0);
        }
        box.pass(1);
        c.same("an expired one's", box.returned(7), 99);
        box.withdraw(2);
        c.same("and a withdrawn one's", box.returned(7), 99 + 6);
        c.same("none of the other's", box.returned(0), 0);
        box.pass(10);
        box.serve();
        c.same("a served one's", box.returned(0), 50);
        for (int sender = 1; sender <= 6; sender++) {
            c.same("nothing", box.returned(sender), 0);
        }
        c.same("the sum stays when the box is empty", box.returned(7), 105);
    }

    private static void returnedRange(Checks c) {
        c.sentence("P14: Throws IllegalArgumentException if sender is out of range");
        c.range("of an empty box", 0, 7, Checks.ARGUMENT, Boxes::empty,
                (box, s) -> box.returned(s));
    }

    // ---- promise 15

    private static void entryLatestFirst(Checks c) {
        c.sentence("P15: 0 for the latest one, and so on");
        for (int entries : new int[] {1, 2, 16, 17, 40}) {
            PetitionBox box = Boxes.withEntries(entries);
            c.same("the latest one", box.entry(0, 0), entries - 1);
            int oldest = Math.min(entries, 16) - 1;
            c.same("the oldest one", box.entry(oldest, 0), entries - 1 - oldest);
        }
    }

    private static void entryFields(Checks c) {
        c.sentence("P15: 0 the number, 1 0 served, 1 expired, 2 withdrawn, 2 the ticks, 3 the coins, 4 the rank");
        PetitionBox box = new PetitionBox();
        box.sendBribed(0, 4, 200, 100);
        box.sendBribed(1, 0, 11, 9);
        box.sendBribed(2, 0, 200, 30);
        box.pass(11);
        box.withdraw(2);
        box.serve();
        box.send(3, 0, 1);
        box.serve();
        int[][] due = {{3, 0, 0, 0, 0}, {0, 0, 11, 50, 4}, {2, 2, 11, 23, 2}, {1, 1, 11, 9, 1}};
        for (int index = 0; index < 4; index++) {
            for (int what = 0; what <= 4; what++) {
                c.same("entry(" + index + ", " + what + ")", box.entry(index, what), due[index][what]);
            }
        }
    }

    private static void entryIndex(Checks c) {
        c.sentence("P15: Throws IndexOutOfBoundsException if not so many are kept");
        PetitionBox none = new PetitionBox();
        for (int index : new int[] {Integer.MIN_VALUE, -1, 0, 1, Integer.MAX_VALUE}) {
            c.refuses(none, "of no entry", Checks.INDEX, () -> none.entry(index, 0));
        }
        for (int entries : new int[] {1, 15, 16, 17, 40}) {
            int greatest = Math.min(entries, 16) - 1;
            c.range("of " + entries, 0, greatest, Checks.INDEX, () -> Boxes.withEntries(entries),
                    (box, index) -> box.entry(index, 4));
        }
    }

    private static void entryWhat(Checks c) {
        c.sentence("P15: Throws IllegalArgumentException if what is out of range");
        c.range("of the only one", 0, 4, Checks.ARGUMENT, () -> Boxes.withEntries(1),
                (box, what) -> box.entry(0, what));
        c.range("of the 16th", 0, 4, Checks.ARGUMENT, () -> Boxes.withEntries(20),
                (box, what) -> box.entry(15, what));
    }

    private static void entryBoth(Checks c) {
        c.sentence("P15: IndexOutOfBoundsException is listed first");
        for (int entries : new int[] {0, 1, 16, 17}) {
            PetitionBox box = Boxes.withEntries(entries);
            for (int index : new int[] {Integer.MIN_VALUE, -1, Math.min(16, entries), 16}) {
                for (int what : new int[] {Integer.MIN_VALUE, -1, 5, Integer.MAX_VALUE}) {
                    c.refuses(box, "both wrong", Checks.INDEX, () -> box.entry(index, what));
                }
            }
        }
    }

    // ---- promise 16

    private static void values(Checks c, PetitionBox box, int... due) {
        for (int what = 0; what <= 13; what++) {
            c.same("value(" + what + ")", box.value(what), due[what]);
        }
    }

    private static void valuesOfNewBox(Checks c) {
        c.sentence("P16: of a new box");
        values(c, new PetitionBox(), 0, 0, 0, 0, 0, 0, 0, 0, 0, -1, 0, 3, 10, 0);
    }

    private static void valuesOfFullBox(Checks c) {
        c.sentence("P16: of a full box and an emptied one");
        PetitionBox box = Boxes.withQuota(10);
        for (int i = 0; i < 40; i++) {
            box.sendBribed(i % 8, 4, 200, 100);
        }
        values(c, box, 40, 0, 40, 0, 0, 0, 0, 0, 4000, 4, 0, 10, 10, 0);
        box.pass(199);
        for (int i = 0; i < 20; i++) {
            box.serve();
        }
        for (int number = 20; number < 30; number++) {
            box.withdraw(number);
        }
        box.pass(1);
        int kept = 20 * 50 + 10 * 25;
        values(c, box, 0, 200, 40, 20, 10, 10, kept, 4000 - kept, 0, -1, 16, 10, 10, 20 * 199);
    }

    private static void valueCounts(Checks c) {
        c.sentence("P16: 0 the petitions in the box, 2 put into it so far, 3 served, 4 expired, 5 withdrawn");
        PetitionBox box = Boxes.with(3, 0);
        box.send(7, 4, 1);
        int[][] due = {{4, 4, 0, 0, 0}, {3, 4, 0, 1, 0}, {2, 4, 1, 1, 0}, {1, 4, 1, 1, 1}};
        for (int step = 0; step < 4; step++) {
            switch (step) {
                case 1 -> box.pass(1);
                case 2 -> box.serve();
                case 3 -> box.withdraw(2);
                default -> { }
            }
            c.same("in the box", box.value(0), due[step][0]);
            for (int what = 2; what <= 5; what++) {
                c.same("value(" + what + ")", box.value(what), due[step][what - 1]);
            }
        }
    }

    private static void valueCoins(Checks c) {
        c.sentence("P16: 6 the coins of bribes that were kept so far, 7 returned so far, 8 of the box");
        PetitionBox box = new PetitionBox();
        box.sendBribed(0, 4, 200, 1);
        box.sendBribed(1, 3, 200, 100);
        box.sendBribed(2, 0, 200, 50);
        box.send(3, 0, 200);
        int[][] due = {{0, 0, 151}, {1, 0, 150}, {51, 50, 50}, {63, 88, 0}};
        for (int step = 0; step < 4; step++) {
            switch (step) {
                case 1 -> box.serve();
                case 2 -> {
                    box.pass(11);
                    box.serve();
                }
                case 3 -> box.withdraw(2);
                default -> { }
            }
            c.same("kept", box.value(6), due[step][0]);
            c.same("returned", box.value(7), due[step][1]);
            c.same("of the box", box.value(8), due[step][2]);
        }
    }

    private static void valueLoudest(Checks c) {
        c.sentence("P16: 9 the loudest rank of a petition in the box (NONE if it is empty)");
        PetitionBox box = new PetitionBox();
        c.same("of none", box.value(9), PetitionBox.NONE);
        box.send(0, 0, 200);
        c.same("rank 0", box.value(9), 0);
        box.send(1, 4, 200);
        box.send(2, 2, 200);
        c.same("rank 4", box.value(9), 4);
        box.serve();
        c.same("rank 2", box.value(9), 2);
        box.serve();
        c.same("rank 0", box.value(9), 0);
        box.serve();
        c.same("of none again", box.value(9), PetitionBox.NONE);
    }

    private static void valueEntries(Checks c) {
        c.sentence("P16: 10 the entries in the log");
        for (int entries : new int[] {0, 1, 15, 16, 17, 40}) {
            c.same("of " + entries, Boxes.withEntries(entries).value(10), Math.min(16, entries));
        }
    }

    private static void valueSettings(Checks c) {
        c.sentence("P16: 1 the time, 11 the quota, 12 the grace");
        c.same("the greatest time", Boxes.atTime(100000).value(1), 100000);
        for (int quota : new int[] {0, 1, 10}) {
            c.same("the quota", Boxes.withQuota(quota).value(11), quota);
        }
        for (int grace : new int[] {0, 1, 200}) {
            PetitionBox box = new PetitionBox();
            box.setGrace(grace);
            c.same("the grace", box.value(12), grace);
        }
    }

    private static void valueServedWait(Checks c) {
        c.sentence("P16: 13 the sum of the ticks that all petitions served so far had waited");
        PetitionBox box = Boxes.with(5, 4);
        box.serve();
        c.same("of one that had not waited", box.value(13), 0);
        box.pass(1);
        box.serve();
        c.same("and one that had waited a tick", box.value(13), 1);
        box.pass(198);
        box.serve();
        c.same("and one that had waited the most", box.value(13), 200);
        box.withdraw(3);
        c.same("not of a withdrawn one", box.value(13), 200);
        box.pass(1);
        c.same("not of an expired one", box.value(13), 200);
    }

    private static void valueRange(Checks c) {
        c.sentence("P16: Throws IllegalArgumentException if what is out of range");
        c.range("of an empty box", 0, 13, Checks.ARGUMENT, Boxes::empty, (box, w) -> box.value(w));
        c.range("of a full box", 0, 13, Checks.ARGUMENT, () -> Boxes.full(0),
                (box, w) -> box.value(w));
    }

    // ---- promise 17

    private static void ofRankCounts(Checks c) {
        c.sentence("P17: Returns how many petitions of a rank are in the box.");
        for (int rank = 0; rank <= 4; rank++) {
            PetitionBox full = Boxes.full(rank);
            for (int other = 0; other <= 4; other++) {
                c.same("of 40 of rank " + rank, full.ofRank(other), other == rank ? 40 : 0);
            }
        }
        PetitionBox box = Boxes.withOne(3, 200);
        box.pass(4);
        c.same("of the rank that it had", box.ofRank(3), 0);
        c.same("of the rank that it has", box.ofRank(4), 1);
        box.serve();
        c.same("of none", box.ofRank(4), 0);
    }

    private static void ofRankRange(Checks c) {
        c.sentence("P17: Throws IllegalArgumentException if rank is out of range");
        c.range("of an empty box", 0, 4, Checks.ARGUMENT, Boxes::empty, (box, r) -> box.ofRank(r));
        c.range("of a full box", 0, 4, Checks.ARGUMENT, () -> Boxes.full(4),
                (box, r) -> box.ofRank(r));
    }
}

/** The boundary cases of promises 18 to 22, sentence by sentence: the what-if questions. */
public final class EdgesOfWhatIfTest {
    public static void main(String[] args) {
        Checks c = new Checks();
        c.sentences(
                EdgesOfWhatIfTest::rankInNoTicks,
                EdgesOfWhatIfTest::rankInSomeTicks,
                EdgesOfWhatIfTest::rankInExpired,
                EdgesOfWhatIfTest::rankInLoudest,
                EdgesOfWhatIfTest::rankInNumber,
                EdgesOfWhatIfTest::rankInTicks,
                EdgesOfWhatIfTest::rankInBoth,
                EdgesOfWhatIfTest::rankInLate,
                EdgesOfWhatIfTest::firstToExpireOfNone,
                EdgesOfWhatIfTest::firstToExpireOfSome,
                EdgesOfWhatIfTest::firstToExpireLowest,
                EdgesOfWhatIfTest::servedInAtOnce,
                EdgesOfWhatIfTest::servedInOfMany,
                EdgesOfWhatIfTest::servedInExpired,
                EdgesOfWhatIfTest::servedInLouder,
                EdgesOfWhatIfTest::servedInRefuses,
                EdgesOfWhatIfTest::servedInLate,
                EdgesOfWhatIfTest::plainLeads,
                EdgesOfWhatIfTest::bribeLeads,
                EdgesOfWhatIfTest::noneSuffices,
                EdgesOfWhatIfTest::whateverTheQuota,
                EdgesOfWhatIfTest::bribeToLeadRange,
                EdgesOfWhatIfTest::meanOfNone,
                EdgesOfWhatIfTest::meanOfSome,
                EdgesOfWhatIfTest::meanOfServedOnly,
                EdgesOfWhatIfTest::nothingIsDone);
        c.finish();
    }

    // ---- promise 18

    private static void rankInNoTicks(Checks c) {
        c.sentence("P18: ticks: 0 to 200; with 0 it is the rank that it has");
        for (int rank = 0; rank <= 4; rank++) {
            c.same("rankIn(0, 0)", Boxes.withOne(rank, 1).rankIn(0, 0), rank);
        }
        PetitionBox box = Boxes.withOne(0, 200);
        box.pass(30);
        box.setPatience(0, 1);
        c.same("rankIn(0, 0) later", box.rankIn(0, 0), 4);
    }

    private static void rankInSomeTicks(Checks c) {
        c.sentence("P18: Tells the rank of a petition after some ticks, if nothing else is done.");
        PetitionBox box = Boxes.withOne(0, 200);
        box.pass(3);
        int[] firstTickOfRank = {0, 7, 15, 21, 25};
        for (int rank = 1; rank <= 4; rank++) {
            c.same("a tick before", box.rankIn(0, firstTickOfRank[rank] - 1), rank - 1);
            c.same("at the tick", box.rankIn(0, firstTickOfRank[rank]), rank);
        }
        PetitionBox full = Boxes.full(1);
        c.same("the last one of a full box, a tick before", full.rankIn(39, 7), 1);
        c.same("the last one of a full box, at the tick", full.rankIn(39, 8), 2);
    }

    private static void rankInExpired(Checks c) {
        c.sentence("P18: NONE if it would have expired");
        for (int bound : new int[] {1, 2, 10, 11, 199, 200}) {
            PetitionBox box = Boxes.withOne(4, bound);
            c.same("a tick before its bound", box.rankIn(0, bound - 1), 4);
            c.same("at its bound", box.rankIn(0, bound), PetitionBox.NONE);
            c.same("long after", box.rankIn(0, 200), PetitionBox.NONE);
        }
        PetitionBox late = Boxes.withOne(4, 200);
        late.pass(199);
        c.same("no tick more", late.rankIn(0, 0), 4);
        c.same("one tick more", late.rankIn(0, 1), PetitionBox.NONE);
        PetitionBox both = Boxes.withOne(0, 10);
        c.same("expires in the tick that would make it louder", both.rankIn(0, 10), PetitionBox.NONE);
    }

    private static void rankInLoudest(Checks c) {
        c.sentence("P18: Returns the rank; at most 4");
        PetitionBox box = Boxes.withOne(0, 200);
        for (int rank = 0; rank <= 3; rank++) {
            box.setPatience(rank, 1);
        }
        int[] due = {0, 1, 2, 3, 4, 4, 4};
        for (int ticks = 0; ticks < due.length; ticks++) {
            c.same("rankIn(0, " + ticks + ")", box.rankIn(0, ticks), due[ticks]);
        }
        c.same("rankIn(0, 199)", box.rankIn(0, 199), 4);
    }

    private static void rankInNumber(Checks c) {
        c.sentence("P18: Throws IndexOutOfBoundsException if no such petition is in the box");
        c.range("of a full box", 0, 39, Checks.INDEX, () -> Boxes.full(0),
                (box, number) -> box.rankIn(number, 200));
        PetitionBox gone = Boxes.with(2, 0);
        gone.withdraw(0);
        c.refuses(gone, "one that has left", Checks.INDEX, () -> gone.rankIn(0, 0));
        PetitionBox empty = new PetitionBox();
        c.refuses(empty, "of an empty box", Checks.INDEX, () -> empty.rankIn(0, 0));
        c.refuses(empty, "of an empty box", Checks.INDEX, () -> empty.rankIn(-1, 0));
    }

    private static void rankInTicks(Checks c) {
        c.sentence("P18: Throws IllegalArgumentException if ticks is out of range");
        c.range("the ticks", 0, 200, Checks.ARGUMENT, () -> Boxes.withOne(0, 200),
                (box, ticks) -> box.rankIn(0, ticks));
        c.range("the ticks", 0, 200, Checks.ARGUMENT, () -> Boxes.withOne(0, 1),
                (box, ticks) -> box.rankIn(0, ticks));
    }

    private static void rankInBoth(Checks c) {
        c.sentence("P18: IndexOutOfBoundsException is listed first");
        PetitionBox box = Boxes.withOne(0, 9);
        for (int number : new int[] {Integer.MIN_VALUE, -1, 1, Integer.MAX_VALUE}) {
            for (int ticks : new int[] {Integer.MIN_VALUE, -1, 201, Integer.MAX_VALUE}) {
                c.refuses(box, "both wrong", Checks.INDEX, () -> box.rankIn(number, ticks));
            }
        }
    }

    private static void rankInLate(Checks c) {
        c.sentence("P18: throws nothing else, at the greatest time too");
        PetitionBox box = Boxes.atTime(100000);
        box.send(0, 0, 200);
        c.same("rankIn(0, 199)", box.rankIn(0, 199), 4);
        c.same("rankIn(0, 200)", box.rankIn(0, 200), PetitionBox.NONE);
    }

    // ---- promise 19

    private static void firstToExpireOfNone(Checks c) {
        c.sentence("P19: NONE if the box is empty");
        c.same("of a new box", new PetitionBox().firstToExpire(), PetitionBox.NONE);
        PetitionBox box = Boxes.withOne(0, 9);
        c.same("of one", box.firstToExpire(), 0);
        box.serve();
        c.same("of an emptied box", box.firstToExpire(), PetitionBox.NONE);
        box.undo();
        box.pass(9);
        c.same("when all have expired", box.firstToExpire(), PetitionBox.NONE);
    }

    private static void firstToExpireOfSome(Checks c) {
        c.sentence("P19: Finds the petition that would expire first, if nothing else is done.");
        PetitionBox box = Boxes.withOne(4, 200);
        box.pass(100);
        box.send(1, 0, 101);
        c.same("the one with 100 ticks to go", box.firstToExpire(), 0);
        box.send(2, 0, 99);
        c.same("the one with 99 ticks to go", box.firstToExpire(), 2);
        box.send(3, 0, 1);
        c.same("the one with a tick to go", box.firstToExpire(), 3);
        box.pass(1);
        c.same("once that has expired", box.firstToExpire(), 2);
        PetitionBox full = Boxes.with(39, 0);
        full.send(7, 0, 199);
        c.same("the last one of a full box", full.firstToExpire(), 39);
    }

    private static void firstToExpireLowest(Checks c) {
        c.sentence("P19: Returns the number, of several the lowest one");
        c.same("of 40 alike", Boxes.full(0).firstToExpire(), 0);
        PetitionBox box = new PetitionBox();
        box.send(0, 0, 12);
        box.pass(2);
        box.send(1, 4, 10);
        box.sendBribed(2, 4, 10, 100);
        c.same("of three, whatever their ranks are", box.firstToExpire(), 0);
        box.withdraw(0);
        c.same("of two", box.firstToExpire(), 1);
    }

    // ---- promise 20

    private static void servedInAtOnce(Checks c) {
        c.sentence("P20: Returns the ticks that would pass before it is served, 0 or more");
        c.same("the only one", Boxes.withOne(0, 1).servedIn(0), 0);
        PetitionBox box = Boxes.withOne(4, 200);
        box.send(1, 3, 2);
        c.same("the first of two", box.servedIn(0), 0);
        c.same("the second of two", box.servedIn(1), 1);
    }

    private static void servedInOfMany(Checks c) {
        c.sentence("P20: again and again, one petition was served and then one tick passed");
        PetitionBox box = Boxes.full(4);
        c.same("the first of 40", box.servedIn(0), 0);
        c.same("the second of 40", box.servedIn(1), 1);
        c.same("the last of 40", box.servedIn(39), 39);
        PetitionBox growing = Boxes.full(0);
        c.same("the last of 40 that grow louder", growing.servedIn(39), 39);
    }

    private static void servedInExpired(Checks c) {
        c.sentence("P20: NONE if it would expire");
        for (int place = 0; place <= 3; place++) {
            for (int bound = 1; bound <= 5; bound++) {
                PetitionBox box = Boxes.with(place, 4);
                int number = box.send(7, 4, bound);
                int due = bound <= place ? PetitionBox.NONE : place;
                c.same("place " + place + ", bound " + bound, box.servedIn(number), due);
            }
        }
        PetitionBox full = Boxes.with(39, 4);
        full.send(7, 4, 39);
        c.same("the last of 40, at its bound", full.servedIn(39), PetitionBox.NONE);
        full.undo();
        full.send(7, 4, 40);
        c.same("the last of 40, a tick before it", full.servedIn(39), 39);
        PetitionBox others = Boxes.withOne(4, 9);
        others.send(1, 4, 1);
        others.send(2, 4, 2);
        c.same("one that moves up as another expires", others.servedIn(2), 1);
    }

    private static void servedInLouder(Checks c) {
        c.sentence("P20: then one tick passed; they grow louder in it");
        PetitionBox box = new PetitionBox();
        box.setPatience(3, 50);
        box.setPatience(0, 1);
        box.setPatience(1, 1);
        box.setPatience(2, 1);
        box.send(0, 0, 200);
        for (int i = 1; i <= 5; i++) {
            box.send(i, 3, 200);
        }
        c.same("it overtakes once it is as loud", box.servedIn(0), 3);
        c.same("the one that was before it", box.servedIn(3), 2);
        c.same("the one that it overtakes", box.servedIn(4), 4);
    }

    private static void servedInRefuses(Checks c) {
        c.sentence("P20: Throws IndexOutOfBoundsException if no such petition is in the box");
        c.range("of a full box", 0, 39, Checks.INDEX, () -> Boxes.full(0),
                (box, number) -> box.servedIn(number));
        PetitionBox gone = Boxes.with(3, 0);
        gone.withdraw(1);
        gone.serve();
        c.refuses(gone, "a withdrawn one", Checks.INDEX, () -> gone.servedIn(1));
        c.refuses(gone, "a served one", Checks.INDEX, () -> gone.servedIn(0));
        PetitionBox empty = new PetitionBox();
        for (int number : new int[] {Integer.MIN_VALUE, -1, 0, 1, Integer.MAX_VALUE}) {
            c.refuses(empty, "of an empty box", Checks.INDEX, () -> empty.servedIn(number));
        }
    }

    private static void servedInLate(Checks c) {
        c.sentence("P20: throws nothing else, at the greatest time too");
        PetitionBox box = Boxes.atTime(100000);
        box.send(0, 4, 200);
        box.send(1, 4, 200);
        box.send(2, 4, 2);
        c.same("at once", box.servedIn(0), 0);
        c.same("after a tick", box.servedIn(1), 1);
        c.same("expired", box.servedIn(2), PetitionBox.NONE);
    }

    // ---- promise 21

    private static void plainLeads(Checks c) {
        c.sentence("P21: Returns 0 if a plain one would be");
        for (int rank = 0; rank <= 4; rank++) {
            c.same("in an empty box", new PetitionBox().bribeToLead(rank), 0);
            for (int loudest = 0; loudest < rank; loudest++) {
                PetitionBox box = Boxes.withOne(loudest, 9);
                c.same("louder than " + loudest, box.bribeToLead(rank), 0);
                box.send(1, rank, 9);
                c.same("then it is the first one", box.peek(0), 1);
            }
        }
        PetitionBox alike = Boxes.withOne(2, 9);
        c.differ("as loud as another", alike.bribeToLead(2), 0);
        alike.send(1, 2, 9);
        c.same("then it is the second one", alike.peek(1), 1);
    }

    private static void bribeLeads(Checks c) {
        c.sentence("P21: otherwise the bribe, 1 to 100");
        for (int loudest = 0; loudest <= 3; loudest++) {
            for (int rank = 0; rank <= loudest; rank++) {
                PetitionBox box = Boxes.withOne(loudest, 9);
                int due = 25 * (loudest - rank + 1);
                c.same("for rank " + rank + " over " + loudest, box.bribeToLead(rank), due);
                box.sendBribed(1, rank, 9, due - 1);
                c.same("a coin less does not suffice", box.peek(0), 0);
                box.undo();
                box.sendBribed(1, rank, 9, due);
                c.same("it suffices", box.peek(0), 1);
            }
        }
        c.same("the least", Boxes.withOne(0, 9).bribeToLead(0), 25);
        c.same("the greatest", Boxes.withOne(3, 9).bribeToLead(0), 100);
    }

    private static void noneSuffices(Checks c) {
        c.sentence("P21: NONE if none suffices");
        for (int rank = 0; rank <= 4; rank++) {
            c.same("over rank 4", Boxes.withOne(4, 9).bribeToLead(rank), PetitionBox.NONE);
            PetitionBox box = Boxes.withOne(4, 9);
            box.sendBribed(1, rank, 9, 100);
            c.same("with 100 coins", box.peek(0), 0);
        }
        PetitionBox grown = Boxes.withOne(3, 9);
        grown.pass(3);
        c.same("a tick before it has rank 4", grown.bribeToLead(0), 100);
        grown.pass(1);
        c.same("when it has rank 4", grown.bribeToLead(0), PetitionBox.NONE);
    }

    private static void whateverTheQuota(Checks c) {
        c.sentence("P21: whatever the quota and the number of petitions are");
        PetitionBox box = Boxes.withOne(1, 9);
        box.setQuota(0);
        int[] due = {50, 25, 0, 0, 0};
        PetitionBox full = Boxes.full(1);
        for (int rank = 0; rank <= 4; rank++) {
            c.same("with the quota 0", box.bribeToLead(rank), due[rank]);
            c.same("with 40 petitions", full.bribeToLead(rank), due[rank]);
        }
    }

    private static void bribeToLeadRange(Checks c) {
        c.sentence("P21: Throws IllegalArgumentException if rank is out of range");
        c.range("of an empty box", 0, 4, Checks.ARGUMENT, Boxes::empty,
                (box, r) -> box.bribeToLead(r));
        c.range("of a full box", 0, 4, Checks.ARGUMENT, () -> Boxes.full(4),
                (box, r) -> box.bribeToLead(r));
    }

    // ---- promise 22

    private static void meanOfNone(Checks c) {
        c.sentence("P22: 0.0 if none was served");
        c.sameDouble("of a new box", new PetitionBox().meanWait(), 0.0);
        PetitionBox box = Boxes.with(2, 0);
        box.pass(7);
        c.sameDouble("while they wait", box.meanWait(), 0.0);
        box.withdraw(0);
        c.sameDouble("when one is withdrawn", box.meanWait(), 0.0);
        box.serve();
        c.sameDouble("when one is served", box.meanWait(), 7.0);
        box.undo();
        c.sameDouble("when that is undone", box.meanWait(), 0.0);
        box.pass(200);
        c.sameDouble("when one has expired", box.meanWait(), 0.0);
    }

    private static void meanOfSome(Checks c) {
        c.sentence("P22: the sum, converted to double, divided by the number, converted to double");
        PetitionBox box = Boxes.with(3, 4);
        box.serve();
        c.sameDouble("0 / 1", box.meanWait(), 0.0);
        box.pass(1);
        box.serve();
        c.sameDouble("1 / 2", box.meanWait(), 0.5);
        box.serve();
        c.sameDouble("2 / 3", box.meanWait(), 2.0 / 3.0);
        PetitionBox full = Boxes.full(4);
        full.pass(199);
        for (int i = 0; i < 40; i++) {
            full.serve();
            c.sameDouble("the greatest wait", full.meanWait(), 199.0);
        }
    }

    private static void meanOfServedOnly(Checks c) {
        c.sentence("P22: the mean of the ticks that the petitions served so far had waited");
        PetitionBox box = Boxes.with(4, 4);
        box.send(7, 0, 5);
        box.pass(3);
        box.serve();
        box.pass(2);
        box.withdraw(1);
        c.sameDouble("not of the withdrawn or the expired", box.meanWait(), 3.0);
        box.serve();
        c.sameDouble("of both served ones", box.meanWait(), 4.0);
    }

    private static void nothingIsDone(Checks c) {
        c.sentence("P18 to P22: what-if questions change nothing");
        for (PetitionBox box : new PetitionBox[] {Boxes.full(0), Boxes.full(4)}) {
            long before = box.digest();
            box.rankIn(0, 200);
            box.rankIn(39, 0);
            box.firstToExpire();
            box.servedIn(0);
            box.servedIn(39);
            box.bribeToLead(0);
            box.meanWait();
            c.same("digest()", box.digest(), before);
            c.same("the first one", box.serve(), 0);
        }
    }
}

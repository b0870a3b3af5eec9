/**
 * The boundary cases of the Terms, sentence by sentence: ranks, petitions, quota, ticks, order,
 * bribes and log. Those of the text and of undo stand in EdgesOfTextTest and EdgesOfUndoTest.
 */
public final class EdgesOfTermsTest {
    private static final int[] PATIENCE = {10, 8, 6, 4};

    public static void main(String[] args) {
        Checks c = new Checks();
        c.sentences(
                EdgesOfTermsTest::none,
                EdgesOfTermsTest::ranks,
                EdgesOfTermsTest::patience,
                EdgesOfTermsTest::patienceInitially,
                EdgesOfTermsTest::numbered,
                EdgesOfTermsTest::sender,
                EdgesOfTermsTest::bound,
                EdgesOfTermsTest::bribe,
                EdgesOfTermsTest::ranksOfABribe,
                EdgesOfTermsTest::loudestRankOfABribe,
                EdgesOfTermsTest::secondSender,
                EdgesOfTermsTest::countsForBoth,
                EdgesOfTermsTest::fortyPetitions,
                EdgesOfTermsTest::quotaInitially,
                EdgesOfTermsTest::fewerThanTheQuota,
                EdgesOfTermsTest::eachOfItsSenders,
                EdgesOfTermsTest::ascendingOrder,
                EdgesOfTermsTest::ticksIncrease,
                EdgesOfTermsTest::waitedAtLeastItsBound,
                EdgesOfTermsTest::otherwise,
                EdgesOfTermsTest::rankBelowFour,
                EdgesOfTermsTest::atLeastThePatience,
                EdgesOfTermsTest::oneRankLouder,
                EdgesOfTermsTest::loudestFirst,
                EdgesOfTermsTest::longestWaitNext,
                EdgesOfTermsTest::lowestNumberNext,
                EdgesOfTermsTest::nextByTheSameRule,
                EdgesOfTermsTest::servedWithinTheGrace,
                EdgesOfTermsTest::servedAfterTheGrace,
                EdgesOfTermsTest::expiredBribe,
                EdgesOfTermsTest::withdrawnBribe,
                EdgesOfTermsTest::onlyBribedOnes,
                EdgesOfTermsTest::putIntoTheLog,
                EdgesOfTermsTest::sixteenEntries);
        c.finish();
    }

    private static void none(Checks c) {
        c.sentence("NONE = -1: There is no such thing.");
        c.same("NONE", PetitionBox.NONE, -1);
    }

    private static void ranks(Checks c) {
        c.sentence("There are 5 ranks, 0 (the quietest) to 4 (the loudest).");
        PetitionBox box = new PetitionBox();
        for (int rank = 0; rank <= 4; rank++) {
            box.send(rank, rank, 100);
            c.same("the loudest of them", box.value(9), rank);
            c.same("the first of them", box.peek(0), rank);
        }
        c.refuses(box, "rank -1", Checks.ARGUMENT, () -> box.send(5, -1, 100));
        c.refuses(box, "rank 5", Checks.ARGUMENT, () -> box.send(5, 5, 100));
    }

    private static void patience(Checks c) {
        c.sentence("Each rank from 0 to 3 has a patience, 1 to 50");
        for (int rank = 0; rank <= 3; rank++) {
            int r = rank;
            c.range("setPatience of " + rank, 1, 50, Checks.ARGUMENT, Boxes::empty,
                    (box, ticks) -> box.setPatience(r, ticks));
            PetitionBox least = Boxes.withOne(rank, 200);
            least.setPatience(rank, 1);
            c.same("patience 1, before the tick", least.petition(0, 2), rank);
            least.pass(1);
            c.same("patience 1, after the tick", least.petition(0, 2), rank + 1);
            PetitionBox greatest = Boxes.withOne(rank, 200);
            greatest.setPatience(rank, 50);
            greatest.pass(49);
            c.same("patience 50, after 49 ticks", greatest.petition(0, 2), rank);
            greatest.pass(1);
            c.same("patience 50, after 50 ticks", greatest.petition(0, 2), rank + 1);
        }
    }

    private static void patienceInitially(Checks c) {
        c.sentence("initially 10, 8, 6 and 4");
        for (int rank = 0; rank <= 3; rank++) {
            PetitionBox box = Boxes.withOne(rank, 200);
            box.pass(PATIENCE[rank] - 1);
            c.same("a tick before the patience", box.petition(0, 2), rank);
            box.pass(1);
            c.same("at the patience", box.petition(0, 2), rank + 1);
            c.same("told by setPatience", box.setPatience(rank, 50), PATIENCE[rank]);
        }
    }

    private static void numbered(Checks c) {
        c.sentence("They are numbered from 0 in the order in which they are put into the box.");
        PetitionBox box = new PetitionBox();
        c.same("the first", box.send(7, 4, 1), 0);
        c.same("the second", box.sendBribed(6, 0, 200, 1), 1);
        c.same("the third", box.sendJoint(5, 4, 2, 9), 2);
        c.same("one of a text", Checks.carryOut(box, "p30,9;b20,9,9;"), 2);
        c.same("one of a text is number 3", box.petition(3, 0), 3);
        c.same("the other is number 4", box.petition(4, 0), 2);
        c.refuses(box, "no number is left out", Checks.INDEX, () -> box.petition(5, 0));
        box.withdraw(4);
        c.same("the number of one that has left is not used again", box.send(0, 0, 9), 5);
        box.setQuota(0);
        c.refuses(box, "one that is refused", Checks.STATE, () -> box.send(0, 0, 9));
        box.setQuota(10);
        c.same("that one used no number", box.send(0, 0, 9), 6);
        box.undo();
        c.same("nor does one that is undone", box.send(0, 0, 9), 6);
    }

    private static void sender(Checks c) {
        c.sentence("A petition has a sender, 0 to 7");
        c.range("send", 0, 7, Checks.ARGUMENT, Boxes::empty, (box, s) -> box.send(s, 0, 9));
        c.range("sendBribed", 0, 7, Checks.ARGUMENT, Boxes::empty,
                (box, s) -> box.sendBribed(s, 0, 9, 9));
        c.range("sendJoint", 0, 7, Checks.ARGUMENT, Boxes::empty,
                (box, s) -> box.sendJoint(s, s == 3 ? 4 : 3, 0, 9));
        c.range("sendJoint, the second", 0, 7, Checks.ARGUMENT, Boxes::empty,
                (box, s) -> box.sendJoint(s == 3 ? 4 : 3, s, 0, 9));
        PetitionBox box = new PetitionBox();
        for (int s = 0; s <= 7; s++) {
            c.same("its sender", box.petition(box.send(s, 0, 9), 0), s);
        }
    }

    private static void bound(Checks c) {
        c.sentence("and a bound, 1 to 200");
        c.range("send", 1, 200, Checks.ARGUMENT, Boxes::empty, (box, b) -> box.send(0, 0, b));
        PetitionBox least = Boxes.withOne(0, 1);
        c.same("bound 1 expires in the first tick", least.pass(1), 1);
        PetitionBox greatest = Boxes.withOne(0, 200);
        c.same("bound 200 does not in 199", greatest.pass(199), 0);
        c.same("bound 200 does in the 200th", greatest.pass(1), 1);
    }

    private static void bribe(Checks c) {
        c.sentence("A bribed one has a bribe, 1 to 100 coins");
        c.range("sendBribed", 1, 100, Checks.ARGUMENT, Boxes::empty,
                (box, coins) -> box.sendBribed(0, 0, 9, coins));
        PetitionBox box = new PetitionBox();
        c.same("1 coin", box.petition(box.sendBribed(0, 0, 9, 1), 6), 1);
        c.same("100 coins", box.petition(box.sendBribed(0, 0, 9, 100), 6), 100);
    }

    private static void ranksOfABribe(Checks c) {
        c.sentence("begins bribe / 25 ranks louder than it was sent for");
        int[][] due = {{1, 0}, {24, 0}, {25, 1}, {26, 1}, {49, 1}, {50, 2}, {74, 2}, {75, 3},
            {99, 3}, {100, 4}};
        for (int[] pair : due) {
            PetitionBox box = new PetitionBox();
            box.sendBribed(0, 0, 9, pair[0]);
            c.same("rank of bribe " + pair[0], box.petition(0, 2), pair[1]);
            c.same("ticks in it", box.petition(0, 4), 0);
        }
    }

    private static void loudestRankOfABribe(Checks c) {
        c.sentence("but at most with rank 4");
        int[][] due = {{4, 1, 4}, {4, 25, 4}, {4, 100, 4}, {3, 24, 3}, {3, 25, 4}, {3, 50, 4},
            {2, 50, 4}, {2, 75, 4}, {1, 75, 4}, {1, 100, 4}, {0, 100, 4}};
        for (int[] row : due) {
            PetitionBox box = new PetitionBox();
            box.sendBribed(0, row[0], 9, row[1]);
            c.same("rank of one for " + row[0] + " with " + row[1], box.petition(0, 2), row[2]);
        }
    }

    private static void secondSender(Checks c) {
        c.sentence("A joint one has a second sender, another one than the first");
        for (int first = 0; first <= 7; first++) {
            for (int second = 0; second <= 7; second++) {
                PetitionBox box = new PetitionBox();
                int f = first;
                int s = second;
                if (first == second) {
                    c.refuses(box, "both " + s, Checks.ARGUMENT, () -> box.sendJoint(f, s, 0, 9));
                } else {
                    box.sendJoint(first, second, 0, 9);
                    c.same("its sender", box.petition(0, 0), first);
                    c.same("its second sender", box.petition(0, 1), second);
                }
            }
        }
    }

    private static void countsForBoth(Checks c) {
        c.sentence("it counts for both");
        PetitionBox box = Boxes.withQuota(1);
        box.sendJoint(0, 7, 0, 9);
        c.same("of the first", box.sentBy(0), 1);
        c.same("of the second", box.sentBy(7), 1);
        c.same("of another", box.sentBy(1), 0);
        c.refuses(box, "the first is at its quota", Checks.STATE, () -> box.send(0, 0, 9));
        c.refuses(box, "the second is at its quota", Checks.STATE, () -> box.send(7, 0, 9));
        c.same("another is not", box.send(1, 0, 9), 1);
        box.withdraw(0);
        c.same("of the first, after it has left", box.sentBy(0), 0);
        c.same("of the second, after it has left", box.sentBy(7), 0);
    }

    private static void fortyPetitions(Checks c) {
        c.sentence("At most 40 petitions are in the box.");
        PetitionBox last = Boxes.with(39, 0);
        c.same("the 40th", last.send(7, 0, 200), 39);
        PetitionBox lastBribed = Boxes.with(39, 0);
        c.same("the 40th, bribed", lastBribed.sendBribed(7, 0, 200, 1), 39);
        PetitionBox lastJoint = Boxes.with(39, 0);
        c.same("the 40th, joint", lastJoint.sendJoint(7, 6, 0, 200), 39);
        PetitionBox full = Boxes.full(0);
        c.same("in a full box", full.value(0), 40);
        c.refuses(full, "the 41st", Checks.STATE, () -> full.send(7, 0, 200));
        c.refuses(full, "the 41st, bribed", Checks.STATE, () -> full.sendBribed(7, 0, 200, 100));
        c.refuses(full, "the 41st, joint", Checks.STATE, () -> full.sendJoint(7, 6, 0, 200));
        c.same("the 41st, of a text", Checks.carryOut(full, "p70,200;"), 0);
        c.same("the 41st, bribed, of a text", Checks.carryOut(full, "b70,200,1;"), 0);
        c.same("in it still", full.value(0), 40);
        full.serve();
        c.same("once one has left", full.send(7, 0, 200), 40);
    }

    private static void quotaInitially(Checks c) {
        c.sentence("There is a quota, 0 to 10, initially 3");
        c.range("setQuota", 0, 10, Checks.ARGUMENT, Boxes::empty, (box, q) -> box.setQuota(q));
        PetitionBox box = new PetitionBox();
        c.same("value(11)", box.value(11), 3);
        for (int i = 0; i < 3; i++) {
            c.same("one of three", box.send(4, 0, 9), i);
        }
        c.refuses(box, "the fourth", Checks.STATE, () -> box.send(4, 0, 9));
    }

    private static void fewerThanTheQuota(Checks c) {
        c.sentence("only if each of its senders has fewer petitions in it than the quota");
        for (int quota = 0; quota <= 10; quota++) {
            PetitionBox box = Boxes.withQuota(quota);
            for (int i = 0; i < quota; i++) {
                c.same("below the quota " + quota, box.send(0, 0, 200), i);
            }
            c.refuses(box, "at the quota", Checks.STATE, () -> box.send(0, 0, 200));
            c.refuses(box, "at the quota", Checks.STATE, () -> box.sendBribed(0, 0, 200, 9));
            c.refuses(box, "at the quota", Checks.STATE, () -> box.sendJoint(0, 1, 0, 200));
            c.same("at the quota, by a text", Checks.carryOut(box, "p00,200;"), 0);
            c.same("at the quota, by a text", Checks.carryOut(box, "b00,200,9;"), 0);
            if (quota > 0) {
                c.same("another sender", box.send(1, 0, 200), quota);
                box.withdraw(0);
                c.same("below it again", box.send(0, 0, 200), quota + 1);
            }
        }
        PetitionBox lowered = Boxes.withQuota(3);
        lowered.send(0, 0, 200);
        lowered.send(0, 0, 200);
        lowered.setQuota(1);
        c.refuses(lowered, "above the quota", Checks.STATE, () -> lowered.send(0, 0, 200));
        lowered.withdraw(0);
        c.refuses(lowered, "at it", Checks.STATE, () -> lowered.send(0, 0, 200));
        lowered.withdraw(1);
        c.same("below it", lowered.send(0, 0, 200), 2);
    }

    private static void eachOfItsSenders(Checks c) {
        c.sentence("each of its senders");
        PetitionBox box = Boxes.withQuota(2);
        box.send(0, 0, 9);
        box.sendJoint(1, 0, 0, 9);
        c.refuses(box, "the first one is at it", Checks.STATE, () -> box.sendJoint(0, 2, 0, 9));
        c.refuses(box, "the second one is at it", Checks.STATE, () -> box.sendJoint(2, 0, 0, 9));
        c.same("both are below it", box.sendJoint(1, 2, 0, 9), 2);
        c.refuses(box, "both are at it", Checks.STATE, () -> box.sendJoint(0, 1, 0, 9));
        c.refuses(box, "one by joint ones alone", Checks.STATE, () -> box.sendBribed(1, 0, 9, 9));
        c.same("one that is below it", box.sendBribed(2, 0, 9, 9), 3);
    }

    private static void ascendingOrder(Checks c) {
        c.sentence("each petition in the box, in ascending order of the numbers, is looked at");
        PetitionBox box = Boxes.full(0);
        for (int number = 5; number < 40; number += 2) {
            box.withdraw(number);
        }
        c.same("22 of them are left", box.pass(199), 0);
        c.same("all of them expire in one tick", box.pass(1), 22);
        for (int index = 0; index < 16; index++) {
            c.same("entry " + index, box.entry(index, 0), 38 - 2 * index);
        }
        PetitionBox mixed = new PetitionBox();
        int[] ranks = {1, 4, 0, 2, 3};
        for (int i = 0; i < 5; i++) {
            mixed.send(i, ranks[i], 3);
        }
        mixed.send(5, 0, 4);
        c.same("whatever their ranks are", mixed.pass(3), 5);
        for (int index = 0; index < 5; index++) {
            c.same("entry " + index, mixed.entry(index, 0), 4 - index);
        }
        c.same("the one behind them was looked at too", mixed.petition(5, 3), 3);
    }

    private static void ticksIncrease(Checks c) {
        c.sentence("the ticks that it has waited and those in its rank increase by 1");
        PetitionBox box = Boxes.full(4);
        for (int ticks = 1; ticks <= 3; ticks++) {
            box.pass(1);
            for (int number = 0; number < 40; number += 13) {
                c.same("waited", box.petition(number, 3), ticks);
                c.same("in its rank", box.petition(number, 4), ticks);
                c.same("to go", box.petition(number, 7), 200 - ticks);
            }
            c.same("the time", box.value(1), ticks);
        }
    }

    private static void waitedAtLeastItsBound(Checks c) {
        c.sentence("If it has waited at least its bound then, it expires and leaves the box.");
        for (int bound = 1; bound <= 200; bound++) {
            PetitionBox box = Boxes.withOne(4, bound);
            if (bound > 1) {
                c.same("a tick before its bound", box.pass(bound - 1), 0);
                c.same("it is in the box", box.value(0), 1);
            }
            c.same("at its bound", box.pass(1), 1);
            c.same("it is in the box no more", box.value(0), 0);
            c.same("how it left", box.entry(0, 1), 1);
            c.same("what it had waited", box.entry(0, 2), bound);
        }
    }

    private static void otherwise(Checks c) {
        c.sentence("Otherwise, if its rank is below 4 ..., it gets one rank louder");
        for (int rank = 0; rank <= 3; rank++) {
            PetitionBox box = Boxes.withOne(rank, PATIENCE[rank]);
            box.pass(PATIENCE[rank]);
            c.same("one that expires gets no louder", box.entry(0, 4), rank);
            PetitionBox later = Boxes.withOne(rank, PATIENCE[rank] + 1);
            later.pass(PATIENCE[rank]);
            c.same("one that does not, does", later.petition(0, 2), rank + 1);
            later.pass(1);
            c.same("and expires so", later.entry(0, 4), rank + 1);
        }
    }

    private static void rankBelowFour(Checks c) {
        c.sentence("if its rank is below 4");
        PetitionBox box = Boxes.withOne(4, 200);
        box.sendBribed(1, 3, 200, 25);
        box.pass(199);
        c.same("rank 4 stays", box.petition(0, 2), 4);
        c.same("the ticks in it go on", box.petition(0, 4), 199);
        c.same("rank 4 by a bribe stays", box.petition(1, 2), 4);
        PetitionBox below = Boxes.withOne(3, 200);
        below.pass(4);
        c.same("rank 3 does not", below.petition(0, 2), 4);
        below.pass(195);
        c.same("rank 4 stays", below.petition(0, 2), 4);
        c.same("the ticks in it go on", below.petition(0, 4), 195);
    }

    private static void atLeastThePatience(Checks c) {
        c.sentence("and the ticks in its rank are at least the patience of the rank");
        for (int rank = 0; rank <= 3; rank++) {
            for (int patience = 1; patience <= 50; patience++) {
                PetitionBox box = Boxes.withOne(rank, 200);
                box.setPatience(rank, patience);
                if (patience > 1) {
                    box.pass(patience - 1);
                }
                c.same("a tick before the patience", box.petition(0, 2), rank);
                c.same("the ticks in its rank", box.petition(0, 4), patience - 1);
                box.pass(1);
                c.same("at the patience", box.petition(0, 2), rank + 1);
            }
            PetitionBox lowered = Boxes.withOne(rank, 200);
            lowered.setPatience(rank, 50);
            lowered.pass(30);
            lowered.setPatience(rank, 5);
            c.same("beyond the patience without a tick", lowered.petition(0, 2), rank);
            c.same("nor do its ticks change", lowered.petition(0, 4), 30);
            lowered.pass(1);
            c.same("beyond the patience with a tick", lowered.petition(0, 2), rank + 1);
        }
    }

    private static void oneRankLouder(Checks c) {
        c.sentence("it gets one rank louder, and the ticks in its rank are 0");
        PetitionBox box = Boxes.withOne(0, 200);
        box.pass(9);
        for (int rank = 0; rank <= 3; rank++) {
            box.setPatience(rank, 1);
        }
        for (int rank = 1; rank <= 4; rank++) {
            box.pass(1);
            c.same("one rank in a tick", box.petition(0, 2), rank);
            c.same("the ticks in its rank", box.petition(0, 4), 0);
            c.same("the ticks that it has waited go on", box.petition(0, 3), 9 + rank);
        }
        box.pass(1);
        c.same("the ticks in rank 4", box.petition(0, 4), 1);
    }

    private static void loudestFirst(Checks c) {
        c.sentence("The petition that is served first is the one with the loudest rank");
        PetitionBox box = new PetitionBox();
        box.send(0, 3, 200);
        box.setPatience(3, 50);
        box.pass(49);
        box.send(1, 4, 200);
        c.same("a louder one that has waited less", box.peek(0), 1);
        box.pass(1);
        c.same("the other, once it is as loud", box.peek(0), 0);
    }

    private static void longestWaitNext(Checks c) {
        c.sentence("of several the one that has waited longest");
        PetitionBox box = new PetitionBox();
        box.send(0, 2, 200);
        box.send(1, 1, 200);
        box.pass(5);
        box.sendBribed(2, 1, 200, 25);
        box.send(3, 2, 200);
        box.pass(3);
        c.same("both have rank 2", box.petition(1, 2), 2);
        c.same("0 has rank 3", box.petition(0, 2), 3);
        int[] due = {0, 1, 2, 3};
        for (int place = 0; place < 4; place++) {
            c.same("place " + place, box.peek(place), due[place]);
        }
        c.same("one that is new to its rank but has waited longer", box.petition(1, 8), 1);
    }

    private static void lowestNumberNext(Checks c) {
        c.sentence("of several the one with the lowest number");
        PetitionBox box = Boxes.full(3);
        for (int number = 0; number < 40; number++) {
            c.same("served before " + number, box.petition(number, 8), number);
            c.same("place " + number, box.peek(number), number);
        }
        for (int number = 0; number < 40; number++) {
            c.same("served", box.serve(), number);
        }
    }

    private static void nextByTheSameRule(Checks c) {
        c.sentence("then the next one by the same rule, and so on");
        PetitionBox box = Boxes.withQuota(10);
        for (int i = 0; i < 40; i++) {
            box.send(i % 8, i % 5, 200);
        }
        for (int place = 0; place < 40; place++) {
            int due = 4 - place / 8 + place % 8 * 5;
            c.same("place " + place, box.peek(place), due);
            c.same("served before " + due, box.petition(due, 8), place);
        }
        for (int place = 0; place < 40; place++) {
            c.same("served", box.serve(), 4 - place / 8 + place % 8 * 5);
        }
    }

    private static PetitionBox bribedAndServed(int grace, int ticks, int bribe) {
        PetitionBox box = new PetitionBox();
        box.sendBribed(6, 4, 200, bribe);
        if (ticks > 0) {
            box.pass(ticks);
        }
        // The grace counts that stands when the petition leaves.
        if (grace != 10) {
            box.setGrace(grace);
        }
        box.serve();
        return box;
    }

    private static void servedWithinTheGrace(Checks c) {
        c.sentence("nothing is returned if it has waited at most the grace, 0 to 200, initially 10");
        c.range("setGrace", 0, 200, Checks.ARGUMENT, Boxes::empty, (box, g) -> box.setGrace(g));
        c.same("value(12)", new PetitionBox().value(12), 10);
        int[][] graceAndTicks = {{0, 0}, {1, 1}, {10, 9}, {10, 10}, {199, 199}, {200, 199}};
        for (int[] pair : graceAndTicks) {
            for (int bribe : new int[] {1, 2, 99, 100}) {
                PetitionBox box = bribedAndServed(pair[0], pair[1], bribe);
                c.same("returned", box.returned(6), 0);
                c.same("returned in all", box.value(7), 0);
                c.same("kept", box.value(6), bribe);
                c.same("told by the log", box.entry(0, 3), 0);
            }
        }
    }

    private static void servedAfterTheGrace(Checks c) {
        c.sentence("otherwise bribe / 2");
        int[][] graceAndTicks = {{0, 1}, {1, 2}, {10, 11}, {198, 199}};
        for (int[] pair : graceAndTicks) {
            for (int bribe = 1; bribe <= 100; bribe++) {
                PetitionBox box = bribedAndServed(pair[0], pair[1], bribe);
                int half = bribe % 2 == 0 ? bribe / 2 : (bribe - 1) / 2;
                c.same("returned", box.returned(6), half);
                c.same("returned in all", box.value(7), half);
                c.same("kept", box.value(6), bribe - half);
                c.same("told by the log", box.entry(0, 3), half);
            }
        }
    }

    private static void expiredBribe(Checks c) {
        c.sentence("if it expires, all of it");
        for (int bribe = 1; bribe <= 100; bribe++) {
            for (int bound : new int[] {1, 10, 11, 200}) {
                PetitionBox box = new PetitionBox();
                box.sendBribed(7, 0, bound, bribe);
                c.same("expired", box.pass(bound), 1);
                c.same("returned", box.returned(7), bribe);
                c.same("returned in all", box.value(7), bribe);
                c.same("kept", box.value(6), 0);
                c.same("told by the log", box.entry(0, 3), bribe);
            }
        }
    }

    private static void withdrawnBribe(Checks c) {
        c.sentence("if it is withdrawn, bribe - bribe / 4");
        int[][] due = {{1, 1}, {2, 2}, {3, 3}, {4, 3}, {5, 4}, {7, 6}, {8, 6}, {9, 7}, {99, 75},
            {100, 75}};
        for (int[] pair : due) {
            for (int ticks : new int[] {0, 10, 11, 199}) {
                PetitionBox box = new PetitionBox();
                box.sendBribed(0, 0, 200, pair[0]);
                if (ticks > 0) {
                    box.pass(ticks);
                }
                c.same("withdraw() of " + pair[0], box.withdraw(0), pair[1]);
                c.same("returned", box.returned(0), pair[1]);
                c.same("returned in all", box.value(7), pair[1]);
                c.same("kept", box.value(6), pair[0] - pair[1]);
                c.same("told by the log", box.entry(0, 3), pair[1]);
            }
        }
    }

    private static void onlyBribedOnes(Checks c) {
        c.sentence("When a bribed petition leaves the box");
        PetitionBox box = new PetitionBox();
        box.send(0, 4, 200);
        box.sendJoint(1, 2, 3, 200);
        box.send(3, 1, 11);
        box.sendJoint(4, 5, 1, 11);
        box.send(6, 0, 200);
        box.sendJoint(7, 6, 0, 200);
        box.pass(11);
        box.serve();
        box.serve();
        c.same("withdrawn plain one", box.withdraw(4), 0);
        c.same("withdrawn joint one", box.withdraw(5), 0);
        c.same("all have left", box.value(0), 0);
        for (int sender = 0; sender <= 7; sender++) {
            c.same("returned", box.returned(sender), 0);
        }
        for (int index = 0; index < 6; index++) {
            c.same("told by the log", box.entry(index, 3), 0);
        }
        c.same("kept", box.value(6), 0);
        c.same("returned in all", box.value(7), 0);
    }

    private static void putIntoTheLog(Checks c) {
        c.sentence("Each petition that leaves the box is put into a log");
        PetitionBox box = new PetitionBox();
        c.same("no entry", box.value(10), 0);
        box.send(0, 4, 200);
        box.send(1, 0, 1);
        box.sendJoint(2, 3, 0, 200);
        box.serve();
        c.same("after serve()", box.value(10), 1);
        box.pass(1);
        c.same("after pass()", box.value(10), 2);
        box.withdraw(2);
        c.same("after withdraw()", box.value(10), 3);
        Checks.carryOut(box, "p00,9;s;p10,1;t1;");
        c.same("after carryOut()", box.value(10), 5);
        int[][] due = {{4, 1}, {3, 0}, {2, 2}, {1, 1}, {0, 0}};
        for (int index = 0; index < 5; index++) {
            c.same("number at " + index, box.entry(index, 0), due[index][0]);
            c.same("way at " + index, box.entry(index, 1), due[index][1]);
        }
    }

    private static void sixteenEntries(Checks c) {
        c.sentence("the latest 16 entries are kept");
        for (int entries : new int[] {0, 1, 15, 16, 17, 18, 33, 40}) {
            PetitionBox box = Boxes.withEntries(entries);
            int kept = Math.min(entries, 16);
            c.same("entries kept of " + entries, box.value(10), kept);
            for (int index = 0; index < kept; index++) {
                c.same("entry " + index, box.entry(index, 0), entries - 1 - index);
                c.same("its rank", box.entry(index, 4), (entries - 1 - index) % 5);
            }
            c.refuses(box, "one more entry", Checks.INDEX, () -> box.entry(kept, 0));
        }
        PetitionBox atOnce = Boxes.full(4);
        atOnce.pass(200);
        c.same("entries when 40 expire at once", atOnce.value(10), 16);
        c.same("the latest one", atOnce.entry(0, 0), 39);
        c.same("the oldest one", atOnce.entry(15, 0), 24);
    }
}

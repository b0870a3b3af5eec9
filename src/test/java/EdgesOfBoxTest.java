/** The boundary cases of promises 1 to 10, sentence by sentence: a new object and the box. */
public final class EdgesOfBoxTest {
    public static void main(String[] args) {
        Checks c = new Checks();
        c.sentences(
                EdgesOfBoxTest::emptyBox,
                EdgesOfBoxTest::atTheTimeZero,
                EdgesOfBoxTest::nothingElse,
                EdgesOfBoxTest::patienceRank,
                EdgesOfBoxTest::patienceTicks,
                EdgesOfBoxTest::patienceBoth,
                EdgesOfBoxTest::previousPatience,
                EdgesOfBoxTest::quotaRange,
                EdgesOfBoxTest::previousQuota,
                EdgesOfBoxTest::graceRange,
                EdgesOfBoxTest::previousGrace,
                EdgesOfBoxTest::sendRanges,
                EdgesOfBoxTest::sendNumber,
                EdgesOfBoxTest::sendState,
                EdgesOfBoxTest::sendBoth,
                EdgesOfBoxTest::sendBribedRanges,
                EdgesOfBoxTest::sendBribedNumber,
                EdgesOfBoxTest::sendBribedState,
                EdgesOfBoxTest::sendBribedBoth,
                EdgesOfBoxTest::sendJointRanges,
                EdgesOfBoxTest::sendJointSame,
                EdgesOfBoxTest::sendJointNumber,
                EdgesOfBoxTest::sendJointState,
                EdgesOfBoxTest::sendJointBoth,
                EdgesOfBoxTest::withdrawReturns,
                EdgesOfBoxTest::withdrawOneOfMany,
                EdgesOfBoxTest::withdrawRefuses,
                EdgesOfBoxTest::serveReturns,
                EdgesOfBoxTest::serveRefuses,
                EdgesOfBoxTest::passRange,
                EdgesOfBoxTest::passReturns,
                EdgesOfBoxTest::passTime,
                EdgesOfBoxTest::passBoth);
        c.finish();
    }

    // ---- promise 1

    private static void emptyBox(Checks c) {
        c.sentence("P1: Creates an empty box");
        PetitionBox box = new PetitionBox();
        c.same("petitions", box.value(0), 0);
        c.same("the loudest rank", box.value(9), PetitionBox.NONE);
        c.same("firstToExpire()", box.firstToExpire(), PetitionBox.NONE);
        for (int rank = 0; rank <= 4; rank++) {
            c.same("of rank " + rank, box.ofRank(rank), 0);
        }
        for (int sender = 0; sender <= 7; sender++) {
            c.same("of sender " + sender, box.sentBy(sender), 0);
        }
        c.refuses(box, "peek(0)", Checks.INDEX, () -> box.peek(0));
        c.refuses(box, "petition(0, 0)", Checks.INDEX, () -> box.petition(0, 0));
        c.refuses(box, "serve()", Checks.NO_ELEMENT, () -> box.serve());
    }

    private static void atTheTimeZero(Checks c) {
        c.sentence("P1: at the time 0");
        PetitionBox box = new PetitionBox();
        c.same("the time", box.value(1), 0);
        box.pass(1);
        c.same("the time after a tick", box.value(1), 1);
    }

    private static void nothingElse(Checks c) {
        c.sentence("P1: a new object has no entry, no saved state, no text and no counts");
        PetitionBox box = new PetitionBox();
        for (int what : new int[] {2, 3, 4, 5, 6, 7, 8, 10, 13}) {
            c.same("value(" + what + ")", box.value(what), 0);
        }
        for (int sender = 0; sender <= 7; sender++) {
            c.same("returned to " + sender, box.returned(sender), 0);
        }
        c.refuses(box, "entry(0, 0)", Checks.INDEX, () -> box.entry(0, 0));
        c.refuses(box, "undo()", Checks.STATE, () -> box.undo());
        c.same("clearText()", box.clearText(), 0);
        PetitionBox other = Boxes.full(4);
        other.serve();
        c.same("objects share nothing", new PetitionBox().digest(), box.digest());
    }

    // ---- promise 2

    private static void patienceRank(Checks c) {
        c.sentence("P2: Throws IndexOutOfBoundsException if there is no such rank with a patience");
        c.range("the rank", 0, 3, Checks.INDEX, Boxes::empty, (box, rank) -> box.setPatience(rank, 7));
    }

    private static void patienceTicks(Checks c) {
        c.sentence("P2: Throws IllegalArgumentException if ticks is out of range");
        for (int rank = 0; rank <= 3; rank++) {
            int r = rank;
            c.range("the ticks of rank " + rank, 1, 50, Checks.ARGUMENT, Boxes::empty,
                    (box, ticks) -> box.setPatience(r, ticks));
        }
    }

    private static void patienceBoth(Checks c) {
        c.sentence("P2: IndexOutOfBoundsException is listed first");
        PetitionBox box = new PetitionBox();
        for (int rank : new int[] {Integer.MIN_VALUE, -1, 4, Integer.MAX_VALUE}) {
            for (int ticks : new int[] {Integer.MIN_VALUE, 0, 51, Integer.MAX_VALUE}) {
                c.refuses(box, "both wrong", Checks.INDEX, () -> box.setPatience(rank, ticks));
            }
        }
    }

    private static void previousPatience(Checks c) {
        c.sentence("P2: Returns the previous patience.");
        PetitionBox box = new PetitionBox();
        int[] before = {10, 8, 6, 4};
        for (int next : new int[] {1, 50, 50, 1, 25}) {
            for (int rank = 0; rank <= 3; rank++) {
                c.same("previous of " + rank, box.setPatience(rank, next), before[rank]);
                before[rank] = next;
            }
        }
        c.refuses(box, "a refused one", Checks.ARGUMENT, () -> box.setPatience(0, 51));
        c.same("is no previous one", box.setPatience(0, 1), 25);
        box.undo();
        c.same("nor is one that is undone", box.setPatience(0, 1), 25);
    }

    // ---- promise 3

    private static void quotaRange(Checks c) {
        c.sentence("P3: Throws IllegalArgumentException if quota is out of range");
        c.range("the quota", 0, 10, Checks.ARGUMENT, Boxes::empty, (box, quota) -> box.setQuota(quota));
    }

    private static void previousQuota(Checks c) {
        c.sentence("P3: Returns the previous quota.");
        PetitionBox box = new PetitionBox();
        int before = 3;
        for (int next : new int[] {0, 10, 10, 0, 1}) {
            c.same("previous", box.setQuota(next), before);
            c.same("the quota now", box.value(11), next);
            before = next;
        }
    }

    // ---- promise 4

    private static void graceRange(Checks c) {
        c.sentence("P4: Throws IllegalArgumentException if ticks is out of range");
        c.range("the grace", 0, 200, Checks.ARGUMENT, Boxes::empty, (box, ticks) -> box.setGrace(ticks));
    }

    private static void previousGrace(Checks c) {
        c.sentence("P4: Returns the previous grace.");
        PetitionBox box = new PetitionBox();
        int before = 10;
        for (int next : new int[] {0, 200, 200, 0, 1}) {
            c.same("previous", box.setGrace(next), before);
            c.same("the grace now", box.value(12), next);
            before = next;
        }
    }

    // ---- promise 5

    private static void sendRanges(Checks c) {
        c.sentence("P5: Throws IllegalArgumentException if an argument is out of range");
        c.range("the sender", 0, 7, Checks.ARGUMENT, Boxes::empty, (box, s) -> box.send(s, 0, 9));
        c.range("the rank", 0, 4, Checks.ARGUMENT, Boxes::empty, (box, r) -> box.send(0, r, 9));
        c.range("the bound", 1, 200, Checks.ARGUMENT, Boxes::empty, (box, b) -> box.send(0, 0, b));
        tell(c, Boxes.empty(), new int[] {0, 0, 1});
        tell(c, Boxes.empty(), new int[] {7, 4, 200});
    }

    private static void tell(Checks c, PetitionBox box, int[] sent) {
        int number = box.send(sent[0], sent[1], sent[2]);
        int[] due = {sent[0], -1, sent[1], 0, 0, sent[2], 0, sent[2], 0, 0};
        tellAll(c, box, number, due);
    }

    private static void tellAll(Checks c, PetitionBox box, int number, int... due) {
        for (int what = 0; what <= 9; what++) {
            c.same("petition(" + number + ", " + what + ")", box.petition(number, what), due[what]);
        }
    }

    private static void sendNumber(Checks c) {
        c.sentence("P5: Returns its number.");
        PetitionBox box = Boxes.withQuota(10);
        for (int number = 0; number < 40; number++) {
            c.same("send()", box.send(number % 8, 0, 200), number);
        }
        c.same("put in so far", box.value(2), 40);
    }

    private static void sendState(Checks c) {
        c.sentence("P5: Throws IllegalStateException if the quota does not allow it, or there are 40");
        for (int quota : new int[] {0, 1, 10}) {
            PetitionBox box = Boxes.withQuota(quota);
            for (int i = 0; i < quota; i++) {
                c.same("allowed", box.send(7, 4, 200), i);
            }
            c.refuses(box, "not allowed", Checks.STATE, () -> box.send(7, 4, 200));
        }
        PetitionBox almost = Boxes.with(39, 4);
        c.same("39 are in it", almost.send(7, 4, 200), 39);
        c.refuses(almost, "40 are in it", Checks.STATE, () -> almost.send(6, 4, 200));
    }

    private static void sendBoth(Checks c) {
        c.sentence("P5: IllegalArgumentException is listed first");
        for (PetitionBox box : new PetitionBox[] {Boxes.withQuota(0), Boxes.full(0)}) {
            c.refuses(box, "sender", Checks.ARGUMENT, () -> box.send(8, 0, 1));
            c.refuses(box, "sender", Checks.ARGUMENT, () -> box.send(-1, 0, 1));
            c.refuses(box, "rank", Checks.ARGUMENT, () -> box.send(0, 5, 1));
            c.refuses(box, "rank", Checks.ARGUMENT, () -> box.send(0, -1, 1));
            c.refuses(box, "bound", Checks.ARGUMENT, () -> box.send(0, 0, 0));
            c.refuses(box, "bound", Checks.ARGUMENT, () -> box.send(0, 0, 201));
            c.refuses(box, "none", Checks.STATE, () -> box.send(0, 0, 1));
        }
    }

    // ---- promise 6

    private static void sendBribedRanges(Checks c) {
        c.sentence("P6: Throws IllegalArgumentException if an argument is out of range");
        c.range("the sender", 0, 7, Checks.ARGUMENT, Boxes::empty,
                (box, s) -> box.sendBribed(s, 0, 9, 9));
        c.range("the rank", 0, 4, Checks.ARGUMENT, Boxes::empty,
                (box, r) -> box.sendBribed(0, r, 9, 9));
        c.range("the bound", 1, 200, Checks.ARGUMENT, Boxes::empty,
                (box, b) -> box.sendBribed(0, 0, b, 9));
        c.range("the bribe", 1, 100, Checks.ARGUMENT, Boxes::empty,
                (box, coins) -> box.sendBribed(0, 0, 9, coins));
        PetitionBox box = new PetitionBox();
        tellAll(c, box, box.sendBribed(0, 0, 1, 1), 0, -1, 0, 0, 0, 1, 1, 1, 0, 1);
        tellAll(c, box, box.sendBribed(7, 4, 200, 100), 7, -1, 4, 0, 0, 200, 100, 200, 0, 1);
    }

    private static void sendBribedNumber(Checks c) {
        c.sentence("P6: Returns its number.");
        PetitionBox box = Boxes.withQuota(10);
        for (int number = 0; number < 40; number++) {
            c.same("sendBribed()", box.sendBribed(number % 8, 0, 200, 100), number);
        }
        c.same("put in so far", box.value(2), 40);
        c.same("the bribes of all of them", box.value(8), 4000);
    }

    private static void sendBribedState(Checks c) {
        c.sentence("P6: Throws IllegalStateException if the quota does not allow it, or there are 40");
        for (int quota : new int[] {0, 1, 10}) {
            PetitionBox box = Boxes.withQuota(quota);
            for (int i = 0; i < quota; i++) {
                c.same("allowed", box.sendBribed(7, 4, 200, 1), i);
            }
            c.refuses(box, "not allowed", Checks.STATE, () -> box.sendBribed(7, 4, 200, 1));
        }
        PetitionBox almost = Boxes.with(39, 4);
        c.same("39 are in it", almost.sendBribed(7, 4, 200, 1), 39);
        c.refuses(almost, "40 are in it", Checks.STATE, () -> almost.sendBribed(6, 4, 200, 1));
    }

    private static void sendBribedBoth(Checks c) {
        c.sentence("P6: IllegalArgumentException is listed first");
        for (PetitionBox box : new PetitionBox[] {Boxes.withQuota(0), Boxes.full(0)}) {
            c.refuses(box, "sender", Checks.ARGUMENT, () -> box.sendBribed(8, 0, 1, 1));
            c.refuses(box, "sender", Checks.ARGUMENT, () -> box.sendBribed(-1, 0, 1, 1));
            c.refuses(box, "rank", Checks.ARGUMENT, () -> box.sendBribed(0, 5, 1, 1));
            c.refuses(box, "rank", Checks.ARGUMENT, () -> box.sendBribed(0, -1, 1, 1));
            c.refuses(box, "bound", Checks.ARGUMENT, () -> box.sendBribed(0, 0, 0, 1));
            c.refuses(box, "bound", Checks.ARGUMENT, () -> box.sendBribed(0, 0, 201, 1));
            c.refuses(box, "bribe", Checks.ARGUMENT, () -> box.sendBribed(0, 0, 1, 0));
            c.refuses(box, "bribe", Checks.ARGUMENT, () -> box.sendBribed(0, 0, 1, 101));
            c.refuses(box, "none", Checks.STATE, () -> box.sendBribed(0, 0, 1, 1));
        }
    }

    // ---- promise 7

    private static void sendJointRanges(Checks c) {
        c.sentence("P7: Throws IllegalArgumentException if an argument is out of range");
        c.range("the sender", 0, 7, Checks.ARGUMENT, Boxes::empty,
                (box, s) -> box.sendJoint(s, s == 0 ? 7 : 0, 0, 9));
        c.range("the second sender", 0, 7, Checks.ARGUMENT, Boxes::empty,
                (box, s) -> box.sendJoint(s == 0 ? 7 : 0, s, 0, 9));
        c.range("the rank", 0, 4, Checks.ARGUMENT, Boxes::empty,
                (box, r) -> box.sendJoint(0, 1, r, 9));
        c.range("the bound", 1, 200, Checks.ARGUMENT, Boxes::empty,
                (box, b) -> box.sendJoint(0, 1, 0, b));
        PetitionBox box = new PetitionBox();
        tellAll(c, box, box.sendJoint(0, 7, 0, 1), 0, 7, 0, 0, 0, 1, 0, 1, 0, 2);
        tellAll(c, box, box.sendJoint(7, 0, 4, 200), 7, 0, 4, 0, 0, 200, 0, 200, 0, 2);
    }

    private static void sendJointSame(Checks c) {
        c.sentence("P7: or both senders are the same");
        for (int sender : new int[] {-1, 0, 1, 2, 3, 4, 5, 6, 7, 8}) {
            PetitionBox box = new PetitionBox();
            c.refuses(box, "both " + sender, Checks.ARGUMENT, () -> box.sendJoint(sender, sender, 0, 9));
        }
    }

    private static void sendJointNumber(Checks c) {
        c.sentence("P7: Returns its number.");
        PetitionBox box = Boxes.withQuota(10);
        for (int number = 0; number < 40; number++) {
            int pair = number % 4;
            c.same("sendJoint()", box.sendJoint(pair, 7 - pair, 0, 200), number);
        }
        c.same("put in so far", box.value(2), 40);
        for (int sender = 0; sender <= 7; sender++) {
            c.same("of sender " + sender, box.sentBy(sender), 10);
        }
    }

    private static void sendJointState(Checks c) {
        c.sentence("P7: Throws IllegalStateException if the quota does not allow it, or there are 40");
        for (int quota : new int[] {0, 1, 10}) {
            PetitionBox box = Boxes.withQuota(quota);
            for (int i = 0; i < quota; i++) {
                c.same("allowed", box.sendJoint(7, 6, 4, 200), i);
            }
            c.refuses(box, "both are at it", Checks.STATE, () -> box.sendJoint(7, 6, 4, 200));
            c.refuses(box, "the first is at it", Checks.STATE, () -> box.sendJoint(7, 5, 4, 200));
            c.refuses(box, "the second is at it", Checks.STATE, () -> box.sendJoint(5, 6, 4, 200));
            if (quota > 0) {
                c.same("neither is", box.sendJoint(5, 4, 4, 200), quota);
            }
        }
        PetitionBox almost = Boxes.with(39, 4);
        c.same("39 are in it", almost.sendJoint(7, 6, 4, 200), 39);
        c.refuses(almost, "40 are in it", Checks.STATE, () -> almost.sendJoint(6, 7, 4, 200));
    }

    private static void sendJointBoth(Checks c) {
        c.sentence("P7: IllegalArgumentException is listed first");
        for (PetitionBox box : new PetitionBox[] {Boxes.withQuota(0), Boxes.full(0)}) {
            c.refuses(box, "sender", Checks.ARGUMENT, () -> box.sendJoint(8, 0, 0, 1));
            c.refuses(box, "sender", Checks.ARGUMENT, () -> box.sendJoint(-1, 0, 0, 1));
            c.refuses(box, "second", Checks.ARGUMENT, () -> box.sendJoint(0, 8, 0, 1));
            c.refuses(box, "second", Checks.ARGUMENT, () -> box.sendJoint(0, -1, 0, 1));
            c.refuses(box, "the same", Checks.ARGUMENT, () -> box.sendJoint(1, 1, 0, 1));
            c.refuses(box, "rank", Checks.ARGUMENT, () -> box.sendJoint(0, 1, 5, 1));
            c.refuses(box, "rank", Checks.ARGUMENT, () -> box.sendJoint(0, 1, -1, 1));
            c.refuses(box, "bound", Checks.ARGUMENT, () -> box.sendJoint(0, 1, 0, 0));
            c.refuses(box, "bound", Checks.ARGUMENT, () -> box.sendJoint(0, 1, 0, 201));
            c.refuses(box, "none", Checks.STATE, () -> box.sendJoint(0, 1, 0, 1));
        }
    }

    // ---- promise 8

    private static void withdrawReturns(Checks c) {
        c.sentence("P8: Returns what is returned of its bribe.");
        PetitionBox box = Boxes.withQuota(10);
        int[] bribes = {1, 3, 4, 5, 99, 100};
        int[] due = {1, 3, 3, 4, 75, 75};
        for (int bribe : bribes) {
            box.sendBribed(0, 0, 200, bribe);
        }
        int all = 0;
        for (int number = 0; number < bribes.length; number++) {
            c.same("withdraw(" + number + ")", box.withdraw(number), due[number]);
            all += due[number];
            c.same("returned(0)", box.returned(0), all);
        }
        c.same("a plain one", box.withdraw(box.send(1, 0, 9)), 0);
        c.same("a joint one", box.withdraw(box.sendJoint(1, 2, 0, 9)), 0);
    }

    private static void withdrawOneOfMany(Checks c) {
        c.sentence("P8: Withdraws a petition.");
        for (int number : new int[] {0, 1, 20, 38, 39}) {
            PetitionBox box = Boxes.full(2);
            c.same("withdraw(" + number + ")", box.withdraw(number), 0);
            c.same("left in the box", box.value(0), 39);
            for (int other = 0; other < 40; other++) {
                int o = other;
                if (other == number) {
                    c.refuses(box, "it is gone", Checks.INDEX, () -> box.petition(o, 0));
                } else {
                    c.same("the others stay", box.petition(other, 0), other % 8);
                }
            }
        }
        PetitionBox last = Boxes.withOne(0, 9);
        last.withdraw(0);
        c.same("the box is empty then", last.value(0), 0);
    }

    private static void withdrawRefuses(Checks c) {
        c.sentence("P8: Throws IndexOutOfBoundsException if no such petition is in the box");
        c.range("of a full box", 0, 39, Checks.INDEX, () -> Boxes.full(0),
                (box, number) -> box.withdraw(number));
        PetitionBox gone = Boxes.with(4, 0);
        gone.withdraw(0);
        gone.serve();
        c.refuses(gone, "a withdrawn one", Checks.INDEX, () -> gone.withdraw(0));
        c.refuses(gone, "a served one", Checks.INDEX, () -> gone.withdraw(1));
        gone.pass(200);
        c.refuses(gone, "an expired one", Checks.INDEX, () -> gone.withdraw(2));
        PetitionBox empty = new PetitionBox();
        for (int number : new int[] {Integer.MIN_VALUE, -1, 0, 1, Integer.MAX_VALUE}) {
            c.refuses(empty, "of an empty box", Checks.INDEX, () -> empty.withdraw(number));
        }
    }

    // ---- promise 9

    private static void serveReturns(Checks c) {
        c.sentence("P9: Serves the first petition of the order. Returns its number.");
        PetitionBox box = Boxes.full(0);
        c.same("of a full box", box.serve(), 0);
        box.sendBribed(0, 0, 200, 25);
        c.same("the last one, as it is the loudest", box.serve(), 40);
        for (int number = 1; number < 40; number++) {
            c.same("serve()", box.serve(), number);
            c.same("left", box.value(0), 39 - number);
        }
        c.same("served", box.value(3), 41);
    }

    private static void serveRefuses(Checks c) {
        c.sentence("P9: Throws NoSuchElementException if the box is empty");
        PetitionBox fresh = new PetitionBox();
        c.refuses(fresh, "of a new box", Checks.NO_ELEMENT, () -> fresh.serve());
        PetitionBox one = Boxes.withOne(0, 5);
        c.same("the only one", one.serve(), 0);
        c.refuses(one, "after the only one", Checks.NO_ELEMENT, () -> one.serve());
        one.undo();
        one.pass(5);
        c.refuses(one, "after it has expired", Checks.NO_ELEMENT, () -> one.serve());
    }

    // ---- promise 10

    private static void passRange(Checks c) {
        c.sentence("P10: Throws IllegalArgumentException if ticks is out of range");
        c.range("of an empty box", 1, 200, Checks.ARGUMENT, Boxes::empty, (box, t) -> box.pass(t));
        c.range("with a petition", 1, 200, Checks.ARGUMENT, () -> Boxes.withOne(0, 200),
                (box, t) -> box.pass(t));
        PetitionBox box = new PetitionBox();
        box.pass(1);
        c.same("one tick", box.value(1), 1);
        box.pass(200);
        c.same("200 more", box.value(1), 201);
    }

    private static void passReturns(Checks c) {
        c.sentence("P10: Returns the petitions that expired in them.");
        c.same("of an empty box", new PetitionBox().pass(200), 0);
        PetitionBox full = Boxes.full(0);
        c.same("none in 199 ticks", full.pass(199), 0);
        c.same("40 in the 200th", full.pass(1), 40);
        PetitionBox box = Boxes.withQuota(10);
        for (int bound = 1; bound <= 40; bound++) {
            box.send(bound % 8, 0, bound);
        }
        c.same("in the first tick", box.pass(1), 1);
        c.same("in ten more", box.pass(10), 10);
        c.same("expired so far", box.value(4), 11);
        c.same("in all that can pass at once", box.pass(200), 29);
        c.same("expired so far", box.value(4), 40);
    }

    private static void passTime(Checks c) {
        c.sentence("P10: Throws IllegalStateException if the time would be greater than 100000");
        PetitionBox at99800 = Boxes.atTime(99800);
        c.same("exactly 100000", at99800.pass(200), 0);
        c.same("the time", at99800.value(1), 100000);
        PetitionBox at99801 = Boxes.atTime(99801);
        c.refuses(at99801, "100001", Checks.STATE, () -> at99801.pass(200));
        c.same("exactly 100000", at99801.pass(199), 0);
        PetitionBox at99999 = Boxes.atTime(99999);
        c.refuses(at99999, "100001", Checks.STATE, () -> at99999.pass(2));
        c.same("exactly 100000", at99999.pass(1), 0);
        c.refuses(at99999, "100001", Checks.STATE, () -> at99999.pass(1));
        c.refuses(at99999, "100200", Checks.STATE, () -> at99999.pass(200));
        at99999.send(0, 0, 9);
        c.refuses(at99999, "nothing grows or expires", Checks.STATE, () -> at99999.pass(9));
    }

    private static void passBoth(Checks c) {
        c.sentence("P10: IllegalArgumentException is listed first");
        PetitionBox box = Boxes.atTime(100000);
        for (int ticks : new int[] {201, 202, 1000, Integer.MAX_VALUE}) {
            c.refuses(box, "too many ticks at the end", Checks.ARGUMENT, () -> box.pass(ticks));
        }
        for (int ticks : new int[] {0, -1, Integer.MIN_VALUE}) {
            c.refuses(box, "too few ticks at the end", Checks.ARGUMENT, () -> box.pass(ticks));
        }
        c.refuses(box, "ticks in range at the end", Checks.STATE, () -> box.pass(1));
    }
}

import java.util.ArrayList;
import java.util.List;

/**
 * The boundary cases of undo, of the exceptions and of the digest, sentence by sentence: their Terms
 * and promises 26 and 27.
 */
public final class EdgesOfUndoTest {
    private static final int UNDOABLE_CALLS = 10;

    public static void main(String[] args) {
        Checks c = new Checks();
        c.sentences(
                EdgesOfUndoTest::undoableCallsSave,
                EdgesOfUndoTest::otherCallsDoNotSave,
                EdgesOfUndoTest::evenIfNothingChanges,
                EdgesOfUndoTest::atMostFour,
                EdgesOfUndoTest::oldestIsDroppedFirst,
                EdgesOfUndoTest::everything,
                EdgesOfUndoTest::everythingOfFullBox,
                EdgesOfUndoTest::exceptTheText,
                EdgesOfUndoTest::refusedCallsChangeNothing,
                EdgesOfUndoTest::refusedCallsOfFullBox,
                EdgesOfUndoTest::refusedCallsDropNoSavedState,
                EdgesOfUndoTest::listedFirst,
                EdgesOfUndoTest::undoReturns,
                EdgesOfUndoTest::undoRefuses,
                EdgesOfUndoTest::undoIsNotUndoable,
                EdgesOfUndoTest::digestOfNewBox,
                EdgesOfUndoTest::digestOverflow,
                EdgesOfUndoTest::digestOfSomeBox,
                EdgesOfUndoTest::digestOfFullBox,
                EdgesOfUndoTest::digestOfEmptiedBox,
                EdgesOfUndoTest::digestOfEachValue);
        c.finish();
    }

    /** Petitions of all three kinds, entries of all three sorts, coins kept and returned. */
    private static PetitionBox busy() {
        PetitionBox box = new PetitionBox();
        box.sendBribed(0, 0, 20, 50);
        box.sendJoint(1, 2, 3, 40);
        box.sendBribed(3, 1, 3, 80);
        box.send(4, 4, 100);
        box.sendBribed(5, 2, 50, 99);
        box.send(0, 1, 60);
        box.pass(3);
        box.withdraw(4);
        box.serve();
        return box;
    }

    private static void doUndoable(PetitionBox box, int call) {
        switch (call) {
            case 0 -> box.setPatience(3, 50);
            case 1 -> box.setQuota(9);
            case 2 -> box.setGrace(0);
            case 3 -> box.send(7, 4, 1);
            case 4 -> box.sendBribed(7, 4, 1, 1);
            case 5 -> box.sendJoint(7, 6, 4, 1);
            case 6 -> box.withdraw(0);
            case 7 -> box.serve();
            case 8 -> box.pass(200);
            default -> box.carryOut();
        }
    }

    /** What each question answers that needs no digest; a box of few petitions is asked. */
    private static List<Long> answers(PetitionBox box) {
        List<Long> all = new ArrayList<>();
        for (int what = 0; what <= 13; what++) {
            all.add((long) box.value(what));
        }
        for (int sender = 0; sender <= 7; sender++) {
            all.add((long) box.sentBy(sender));
            all.add((long) box.returned(sender));
        }
        for (int rank = 0; rank <= 4; rank++) {
            all.add((long) box.ofRank(rank));
            all.add((long) box.bribeToLead(rank));
        }
        for (int place = 0; place < box.value(0); place++) {
            int number = box.peek(place);
            all.add((long) number);
            for (int what = 0; what <= 9; what++) {
                all.add((long) box.petition(number, what));
            }
            all.add((long) box.rankIn(number, 4));
            all.add((long) box.servedIn(number));
        }
        for (int index = 0; index < box.value(10); index++) {
            for (int what = 0; what <= 4; what++) {
                all.add((long) box.entry(index, what));
            }
        }
        all.add((long) box.firstToExpire());
        all.add(Double.doubleToLongBits(box.meanWait()));
        return all;
    }

    // ---- undo in the Terms

    private static void undoableCallsSave(Checks c) {
        c.sentence("Each successful call of a method whose description says \"undoable\" saves the state");
        for (int call = 0; call < UNDOABLE_CALLS; call++) {
            PetitionBox box = Boxes.withOne(0, 200);
            box.undo();
            box.send(0, 0, 200);
            doUndoable(box, call);
            c.same("one saved state more after call " + call, box.undo(), 1);
        }
    }

    private static void otherCallsDoNotSave(Checks c) {
        c.sentence("a method whose description says \"undoable\"; the others save nothing");
        PetitionBox box = busy();
        box.undo();
        box.undo();
        answers(box);
        box.digest();
        box.append('x');
        box.clearText();
        c.same("saved states that remain", box.undo(), 1);
        c.same("saved states that remain", box.undo(), 0);
        c.refuses(box, "no more", Checks.STATE, () -> box.undo());
    }

    private static void evenIfNothingChanges(Checks c) {
        c.sentence("even if the call changes nothing");
        PetitionBox box = new PetitionBox();
        long before = box.digest();
        box.setPatience(0, 10);
        c.same("setPatience() to what it is", box.digest(), before + 1);
        box.setQuota(3);
        c.same("setQuota() to what it is", box.digest(), before + 2);
        box.setGrace(10);
        c.same("setGrace() to what it is", box.digest(), before + 3);
        box.carryOut();
        c.same("carryOut() of no orders", box.digest(), before + 4);
        for (int left = 3; left >= 0; left--) {
            c.same("undo()", box.undo(), left);
            c.same("digest()", box.digest(), before + left);
        }
    }

    private static void atMostFour(Checks c) {
        c.sentence("at most 4 states are saved");
        for (int calls = 0; calls <= 9; calls++) {
            PetitionBox box = Boxes.withSaved(calls);
            int saved = Math.min(4, calls);
            for (int left = saved - 1; left >= 0; left--) {
                c.same("undo() after " + calls + " calls", box.undo(), left);
            }
            c.refuses(box, "one undo() more", Checks.STATE, () -> box.undo());
        }
    }

    private static void oldestIsDroppedFirst(Checks c) {
        c.sentence("and the oldest is dropped first");
        for (int calls = 1; calls <= 13; calls++) {
            PetitionBox box = Boxes.withSaved(calls);
            for (int back = 1; back <= Math.min(4, calls); back++) {
                box.undo();
                int due = calls - back == 0 ? 10 : 100 + calls - back;
                c.same("the grace " + back + " calls before", box.value(12), due);
            }
        }
        PetitionBox mixed = Boxes.withSaved(6);
        mixed.undo();
        mixed.undo();
        for (int grace = 1; grace <= 3; grace++) {
            mixed.setGrace(grace);
        }
        int[] due = {2, 1, 104, 103};
        for (int left = 3; left >= 0; left--) {
            c.same("undo()", mixed.undo(), left);
            c.same("the grace before", mixed.value(12), due[3 - left]);
        }
    }

    private static void everything(Checks c) {
        c.sentence("The saved state contains everything");
        for (int call = 0; call < UNDOABLE_CALLS; call++) {
            PetitionBox box = busy();
            Checks.write(box, "p70,9;b61,1,75;s;t9;");
            long digest = box.digest();
            List<Long> before = answers(box);
            doUndoable(box, call);
            c.differ("digest() after call " + call, box.digest(), digest);
            c.same("undo()", box.undo(), 3);
            c.same("digest() after undo() of call " + call, box.digest(), digest - 1);
            c.same("all answers", answers(box).equals(before) ? 1 : 0, 1);
        }
        PetitionBox box = busy();
        box.setPatience(2, 17);
        box.undo();
        c.same("the patience", box.setPatience(2, 1), 6);
    }

    /** 40 petitions, numbers 20 to 59, and 16 entries, with 4 states saved. */
    private static PetitionBox fullOfAll() {
        PetitionBox box = Boxes.withQuota(10);
        for (int number = 0; number < 20; number++) {
            box.sendBribed(number % 8, number % 5, 200, number + 1);
        }
        for (int number = 0; number < 20; number += 2) {
            box.withdraw(number);
        }
        for (int i = 0; i < 10; i++) {
            box.serve();
        }
        for (int number = 20; number < 60; number++) {
            box.sendBribed(number % 8, number % 5, 200, number);
        }
        Checks.write(box, "s;t50;p70,9;");
        return box;
    }

    private static void everythingOfFullBox(Checks c) {
        c.sentence("The saved state contains everything, of a full box and a full log too");
        for (int call : new int[] {0, 1, 2, 7, 8, 9}) {
            PetitionBox box = fullOfAll();
            c.same("in the box", box.value(0), 40);
            c.same("entries", box.value(10), 16);
            long digest = box.digest();
            doUndoable(box, call);
            c.differ("digest() after call " + call, box.digest(), digest);
            c.same("undo()", box.undo(), 3);
            c.same("digest() after undo() of call " + call, box.digest(), digest - 1);
        }
        PetitionBox refilled = fullOfAll();
        long digest = refilled.digest();
        refilled.serve();
        refilled.sendJoint(0, 7, 4, 200);
        refilled.withdraw(60);
        refilled.send(1, 4, 1);
        for (int left = 3; left >= 0; left--) {
            c.same("undo()", refilled.undo(), left);
        }
        c.same("digest() before it was filled again", refilled.digest(), digest - 4);
    }

    private static void exceptTheText(Checks c) {
        c.sentence("everything except the text");
        PetitionBox box = new PetitionBox();
        Checks.write(box, "t1;");
        box.setGrace(1);
        Checks.write(box, "t2;t3");
        box.undo();
        c.same("the length stays", box.append(';'), 6);
        c.same("the bytes stay", box.carryOut(), 2);
        c.same("the time", box.value(1), 5);
        c.same("undo() of carryOut()", box.undo(), 0);
        c.same("the text of carryOut() stays", box.clearText(), 6);
        box.setGrace(2);
        Checks.write(box, "s;");
        box.setGrace(3);
        box.clearText();
        box.undo();
        c.same("nor does an emptied one come back", box.clearText(), 0);
        box.undo();
        c.same("nor with the next one", box.clearText(), 0);
    }

    // ---- the exceptions

    private static void refusedCallsChangeNothing(Checks c) {
        c.sentence("A call that throws an exception changes nothing.");
        PetitionBox box = busy();
        PetitionBox twin = busy();
        for (PetitionBox each : new PetitionBox[] {box, twin}) {
            each.setQuota(1);
            Checks.write(each, "t2;s;p70,9;");
        }
        c.refuses(box, "setPatience", Checks.INDEX, () -> box.setPatience(4, 1));
        c.refuses(box, "setPatience", Checks.ARGUMENT, () -> box.setPatience(0, 0));
        c.refuses(box, "setQuota", Checks.ARGUMENT, () -> box.setQuota(11));
        c.refuses(box, "setGrace", Checks.ARGUMENT, () -> box.setGrace(201));
        c.refuses(box, "send", Checks.ARGUMENT, () -> box.send(0, 0, 201));
        c.refuses(box, "send", Checks.STATE, () -> box.send(0, 0, 200));
        c.refuses(box, "sendBribed", Checks.ARGUMENT, () -> box.sendBribed(0, 0, 9, 101));
        c.refuses(box, "sendBribed", Checks.STATE, () -> box.sendBribed(0, 0, 9, 100));
        c.refuses(box, "sendJoint", Checks.ARGUMENT, () -> box.sendJoint(7, 7, 0, 9));
        c.refuses(box, "sendJoint", Checks.STATE, () -> box.sendJoint(7, 1, 0, 9));
        c.refuses(box, "withdraw", Checks.INDEX, () -> box.withdraw(4));
        c.refuses(box, "pass", Checks.ARGUMENT, () -> box.pass(0));
        c.refuses(box, "petition", Checks.INDEX, () -> box.petition(2, 0));
        c.refuses(box, "petition", Checks.ARGUMENT, () -> box.petition(0, 10));
        c.refuses(box, "peek", Checks.INDEX, () -> box.peek(3));
        c.refuses(box, "sentBy", Checks.ARGUMENT, () -> box.sentBy(8));
        c.refuses(box, "returned", Checks.ARGUMENT, () -> box.returned(8));
        c.refuses(box, "entry", Checks.INDEX, () -> box.entry(3, 0));
        c.refuses(box, "entry", Checks.ARGUMENT, () -> box.entry(0, 5));
        c.refuses(box, "value", Checks.ARGUMENT, () -> box.value(14));
        c.refuses(box, "ofRank", Checks.ARGUMENT, () -> box.ofRank(5));
        c.refuses(box, "rankIn", Checks.INDEX, () -> box.rankIn(2, 0));
        c.refuses(box, "rankIn", Checks.ARGUMENT, () -> box.rankIn(0, 201));
        c.refuses(box, "servedIn", Checks.INDEX, () -> box.servedIn(2));
        c.refuses(box, "bribeToLead", Checks.ARGUMENT, () -> box.bribeToLead(5));
        c.refuses(box, "append", Checks.ARGUMENT, () -> box.append(128));
        sameToTheEnd(c, box, twin);
    }

    /** Both must be alike in what a digest does not hold, too: the text and the saved states. */
    private static void sameToTheEnd(Checks c, PetitionBox box, PetitionBox twin) {
        c.same("all answers", answers(box).equals(answers(twin)) ? 1 : 0, 1);
        c.same("carryOut()", box.carryOut(), twin.carryOut());
        c.same("digest()", box.digest(), twin.digest());
        for (int left = 3; left >= 0; left--) {
            c.same("undo()", box.undo(), left);
            twin.undo();
            c.same("digest() with " + left + " saved states", box.digest(), twin.digest());
        }
        c.same("clearText()", box.clearText(), twin.clearText());
    }

    private static void refusedCallsOfFullBox(Checks c) {
        c.sentence("A call that throws an exception changes nothing: of a full box and an empty one");
        PetitionBox full = Boxes.full(0);
        PetitionBox twin = Boxes.full(0);
        c.refuses(full, "send", Checks.STATE, () -> full.send(0, 0, 9));
        c.refuses(full, "sendBribed", Checks.STATE, () -> full.sendBribed(0, 0, 9, 100));
        c.refuses(full, "sendJoint", Checks.STATE, () -> full.sendJoint(0, 1, 0, 9));
        c.refuses(full, "withdraw", Checks.INDEX, () -> full.withdraw(40));
        c.refuses(full, "peek", Checks.INDEX, () -> full.peek(40));
        for (int left = 3; left >= 0; left--) {
            c.same("undo()", full.undo(), left);
            twin.undo();
            c.same("digest()", full.digest(), twin.digest());
        }
        PetitionBox empty = Boxes.withText(100);
        c.refuses(empty, "serve", Checks.NO_ELEMENT, () -> empty.serve());
        c.refuses(empty, "undo", Checks.STATE, () -> empty.undo());
        c.refuses(empty, "append", Checks.STATE, () -> empty.append('s'));
        c.refuses(empty, "peek", Checks.INDEX, () -> empty.peek(0));
        c.refuses(empty, "entry", Checks.INDEX, () -> empty.entry(0, 0));
        c.same("its text is as it was", empty.carryOut(), 0);
        PetitionBox late = Boxes.atTime(100000);
        late.send(0, 0, 2);
        c.refuses(late, "pass", Checks.STATE, () -> late.pass(1));
        c.same("what it has waited", late.petition(0, 3), 0);
    }

    private static void refusedCallsDropNoSavedState(Checks c) {
        c.sentence("A call that throws an exception changes nothing: it drops no saved state either");
        PetitionBox box = Boxes.withSaved(4);
        c.refuses(box, "setPatience", Checks.INDEX, () -> box.setPatience(4, 1));
        c.refuses(box, "setQuota", Checks.ARGUMENT, () -> box.setQuota(11));
        c.refuses(box, "serve", Checks.NO_ELEMENT, () -> box.serve());
        c.refuses(box, "withdraw", Checks.INDEX, () -> box.withdraw(0));
        c.refuses(box, "pass", Checks.ARGUMENT, () -> box.pass(201));
        c.refuses(box, "send", Checks.ARGUMENT, () -> box.send(0, 0, 0));
        int[] due = {103, 102, 101, 10};
        for (int left = 3; left >= 0; left--) {
            c.same("undo()", box.undo(), left);
            c.same("the grace before", box.value(12), due[3 - left]);
        }
    }

    private static void listedFirst(Checks c) {
        c.sentence("If several exceptions apply, the one that is listed first is thrown.");
        PetitionBox box = Boxes.atTime(100000);
        box.setQuota(0);
        for (int i = 0; i < 50; i++) {
            box.append('s');
            box.append(';');
        }
        c.refuses(box, "setPatience", Checks.INDEX, () -> box.setPatience(-1, 0));
        c.refuses(box, "send", Checks.ARGUMENT, () -> box.send(-1, 0, 1));
        c.refuses(box, "sendBribed", Checks.ARGUMENT, () -> box.sendBribed(0, 0, 1, 0));
        c.refuses(box, "sendJoint", Checks.ARGUMENT, () -> box.sendJoint(0, 0, 0, 1));
        c.refuses(box, "pass", Checks.ARGUMENT, () -> box.pass(201));
        c.refuses(box, "petition", Checks.INDEX, () -> box.petition(0, 10));
        c.refuses(box, "entry", Checks.INDEX, () -> box.entry(0, 5));
        c.refuses(box, "rankIn", Checks.INDEX, () -> box.rankIn(0, 201));
        c.refuses(box, "append", Checks.ARGUMENT, () -> box.append(128));
    }

    // ---- promise 26

    private static void undoReturns(Checks c) {
        c.sentence("P26: Returns the number of saved states that remain.");
        for (int calls = 1; calls <= 5; calls++) {
            PetitionBox box = Boxes.withSaved(calls);
            for (int left = Math.min(4, calls) - 1; left >= 0; left--) {
                c.same("undo()", box.undo(), left);
            }
        }
        PetitionBox box = Boxes.withSaved(4);
        c.same("undo()", box.undo(), 3);
        c.same("undo()", box.undo(), 2);
        box.setGrace(7);
        c.same("undo() after a new call", box.undo(), 2);
        c.same("undo()", box.undo(), 1);
    }

    private static void undoRefuses(Checks c) {
        c.sentence("P26: Throws IllegalStateException if there is no saved state");
        PetitionBox fresh = new PetitionBox();
        c.refuses(fresh, "of a new box", Checks.STATE, () -> fresh.undo());
        for (int calls : new int[] {1, 4, 5}) {
            PetitionBox box = Boxes.withSaved(calls);
            for (int i = 0; i < Math.min(4, calls); i++) {
                box.undo();
            }
            c.refuses(box, "when all are used", Checks.STATE, () -> box.undo());
            c.refuses(box, "and again", Checks.STATE, () -> box.undo());
            box.setGrace(1);
            c.same("once there is one", box.undo(), 0);
        }
    }

    private static void undoIsNotUndoable(Checks c) {
        c.sentence("P26: Restores the most recently saved state and removes it from the saved states.");
        PetitionBox box = Boxes.withSaved(2);
        c.same("the first undo()", box.undo(), 1);
        c.same("the grace", box.value(12), 101);
        c.same("the second undo()", box.undo(), 0);
        c.same("the grace", box.value(12), 10);
        c.refuses(box, "undo() itself saves nothing", Checks.STATE, () -> box.undo());
    }

    // ---- promise 27; the numbers were worked out by hand and hashed by another program

    private static void digestOfNewBox(Checks c) {
        c.sentence("P27: Start with h = 3659 and set h = 31 * h + v: of a new box");
        c.same("digest()", new PetitionBox().digest(), 4084242270684593879L);
    }

    private static void digestOverflow(Checks c) {
        c.sentence("P27: Returns the hash, with the overflow of long arithmetic ignored.");
        long[] due = {4084242270684593879L, -9060571728151099850L, -3758641653277241963L,
            1543288421596615924L, 6845218496470473811L, -6299595502365219918L};
        for (int length = 0; length < due.length; length++) {
            c.same("with " + length + " bytes", Boxes.withText(length).digest(), due[length]);
        }
    }

    private static void digestOfSomeBox(Checks c) {
        c.sentence("P27: each value in its turn");
        PetitionBox box = new PetitionBox();
        box.sendBribed(5, 1, 70, 30);
        box.sendJoint(2, 3, 0, 60);
        box.sendBribed(7, 4, 9, 8);
        box.pass(1);
        box.withdraw(2);
        box.serve();
        box.setPatience(2, 50);
        box.send(0, 4, 5);
        box.append('s');
        c.same("digest()", box.digest(), 6794377591483397899L);
    }

    private static void digestOfFullBox(Checks c) {
        c.sentence("P27: for each petition in the box, in the order of serving: 40 of them, and 100 bytes");
        PetitionBox box = Boxes.full(0);
        for (int i = 0; i < 100; i++) {
            box.append('x');
        }
        c.same("digest()", box.digest(), -8328502837455667821L);
    }

    private static void digestOfEmptiedBox(Checks c) {
        c.sentence("P27: for each entry that is kept, from the latest one: 16 of them, and no petition");
        PetitionBox box = Boxes.full(4);
        box.pass(200);
        c.same("digest()", box.digest(), 7257634911940139924L);
    }

    /** Changes one thing at a time; the digest must change with it. */
    private static void digestOfEachValue(Checks c) {
        c.sentence("P27: Returns a hash of the state.");
        long fresh = new PetitionBox().digest();
        for (int rank = 0; rank <= 3; rank++) {
            PetitionBox box = new PetitionBox();
            box.setPatience(rank, 50);
            c.differ("with another patience of " + rank, box.digest() - 1, fresh);
        }
        PetitionBox text = new PetitionBox();
        text.append('s');
        c.differ("with a text", text.digest(), fresh);
        PetitionBox saved = new PetitionBox();
        saved.carryOut();
        c.same("with a saved state", saved.digest(), fresh + 1);
        PetitionBox quota = Boxes.withQuota(4);
        c.differ("with another quota", quota.digest() - 1, fresh);
        PetitionBox grace = Boxes.withSaved(1);
        c.differ("with another grace", grace.digest() - 1, fresh);
        PetitionBox time = new PetitionBox();
        time.pass(1);
        c.differ("with another time", time.digest() - 1, fresh);
        PetitionBox same = new PetitionBox();
        same.append('a');
        same.clearText();
        same.send(0, 0, 9);
        same.undo();
        c.same("when all is as it was", same.digest(), fresh);
    }
}

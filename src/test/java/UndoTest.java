/** Promises 26 and 27: undo, digest. */
public final class UndoTest {
    private static final int[] PATIENCE = {10, 8, 6, 4};

    public static void main(String[] args) {
        Checks c = new Checks();
        undoOfEachCall(c);
        atMostFour(c);
        failuresSaveNothing(c);
        textIsNotRestored(c);
        digestOfNewBox(c);
        digestOfBusyBox(c);
        c.finish();
    }

    private static PetitionBox someBox() {
        PetitionBox box = new PetitionBox();
        box.sendBribed(0, 0, 20, 50);
        box.sendJoint(1, 2, 3, 9);
        box.sendBribed(3, 1, 9, 80);
        box.pass(8);
        box.serve();
        return box;
    }

    /** The digest without what undo() is to change on purpose: all of it but the saved states. */
    private static long stateOf(PetitionBox box, int saved) {
        return box.digest() - saved;
    }

    private static void undoOfEachCall(Checks c) {
        for (int i = 0; i < 12; i++) {
            PetitionBox box = someBox();
            int left = box.undo();
            c.same("saved states left", left, 3);
            long before = stateOf(box, 3);
            doCall(box, i);
            c.same("saved states left after call " + i, box.undo(), 3);
            c.same("the state before call " + i, stateOf(box, 3), before);
            c.same("one state further", box.undo(), 2);
        }
    }

    private static void doCall(PetitionBox box, int which) {
        switch (which) {
            case 0 -> box.setPatience(0, 1);
            case 1 -> box.setQuota(1);
            case 2 -> box.setGrace(0);
            case 3 -> box.send(7, 4, 1);
            case 4 -> box.sendBribed(7, 4, 1, 1);
            case 5 -> box.sendJoint(7, 6, 4, 1);
            case 6 -> box.withdraw(2);
            case 7 -> box.serve();
            case 8 -> box.pass(200);
            case 9 -> box.setPatience(3, 4);
            case 10 -> box.setGrace(10);
            default -> box.carryOut();
        }
    }

    private static void atMostFour(Checks c) {
        PetitionBox box = new PetitionBox();
        for (int grace = 101; grace <= 107; grace++) {
            box.setGrace(grace);
        }
        for (int left = 3; left >= 0; left--) {
            c.same("undo()", box.undo(), left);
            c.same("the grace before", box.value(12), 103 + left);
        }
        c.refuses(box, "a fifth undo()", Checks.STATE, () -> box.undo());
        c.same("the grace stays", box.value(12), 103);
        box.setGrace(50);
        c.same("undo() after new calls", box.undo(), 0);
        c.same("the grace before", box.value(12), 103);
    }

    private static void failuresSaveNothing(Checks c) {
        PetitionBox box = new PetitionBox();
        c.refuses(box, "setQuota(11)", Checks.ARGUMENT, () -> box.setQuota(11));
        c.refuses(box, "pass(0)", Checks.ARGUMENT, () -> box.pass(0));
        c.refuses(box, "serve()", Checks.NO_ELEMENT, () -> box.serve());
        c.refuses(box, "undo()", Checks.STATE, () -> box.undo());
    }

    private static void textIsNotRestored(Checks c) {
        PetitionBox box = new PetitionBox();
        Checks.write(box, "t1");
        box.setQuota(1);
        box.append(';');
        box.undo();
        c.same("the text is as it was last", box.carryOut(), 1);
        box.clearText();
        box.undo();
        c.same("nor is it brought back", box.clearText(), 0);
    }

    private static void digestOfNewBox(Checks c) {
        PetitionBox box = new PetitionBox();
        c.same("digest()", box.digest(), digestOf(box, 0, PATIENCE, 0));
        box.append('s');
        c.same("digest()", box.digest(), digestOf(box, 1, PATIENCE, 0));
    }

    /** Each step has a box of its own, as digestOf() makes up to 400 calls. */
    private static void digestOfBusyBox(Checks c) {
        for (int step = 0; step <= 4; step++) {
            PetitionBox box = someBox();
            int textLength = 0;
            int saved = 4;
            int[] patience = PATIENCE.clone();
            if (step == 1) {
                box.undo();
                saved = 3;
            }
            if (step >= 2) {
                Checks.write(box, "t50;");
                textLength = 4;
                box.setPatience(2, 33);
                box.setPatience(1, 44);
                patience = new int[] {10, 44, 33, 4};
            }
            if (step >= 3) {
                fillWithBribes(box);
            }
            if (step >= 4) {
                for (int i = 0; i < 20; i++) {
                    box.serve();
                    box.pass(1);
                }
                fillWithBribes(box);
            }
            c.same("digest() at step " + step, box.digest(),
                    digestOf(box, textLength, patience, saved));
        }
    }

    private static void fillWithBribes(PetitionBox box) {
        box.setQuota(10);
        for (int i = 3; i < 23; i++) {
            box.sendBribed(i % 8, i % 3, 200, i);
        }
    }

    private static long digestOf(PetitionBox box, int textLength, int[] patience, int saved) {
        long h = 31 * 3659L + textLength;
        for (int what = 0; what <= 13; what++) {
            h = 31 * h + box.value(what);
        }
        for (int ticks : patience) {
            h = 31 * h + ticks;
        }
        for (int sender = 0; sender < 8; sender++) {
            h = 31 * h + box.returned(sender);
        }
        for (int place = 0; place < box.value(0); place++) {
            int number = box.peek(place);
            h = 31 * h + number;
            for (int what = 0; what <= 9; what++) {
                h = 31 * h + box.petition(number, what);
            }
        }
        for (int index = 0; index < box.value(10); index++) {
            for (int what = 0; what <= 4; what++) {
                h = 31 * h + box.entry(index, what);
            }
        }
        return 31 * h + saved;
    }
}

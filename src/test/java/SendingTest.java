/** Promises 5 to 7: send, sendBribed, sendJoint. */
public final class SendingTest {
    public static void main(String[] args) {
        Checks c = new Checks();
        plain(c);
        bribed(c);
        joint(c);
        arguments(c);
        quotaComesSecond(c);
        fullBox(c);
        numbers(c);
        c.finish();
    }

    private static void row(Checks c, PetitionBox box, int number, int... due) {
        for (int what = 0; what < due.length; what++) {
            c.same("petition(" + number + ", " + what + ")", box.petition(number, what), due[what]);
        }
    }

    private static void plain(Checks c) {
        PetitionBox box = new PetitionBox();
        c.same("send(0, 0, 1)", box.send(0, 0, 1), 0);
        c.same("send(7, 4, 200)", box.send(7, 4, 200), 1);
        row(c, box, 0, 0, -1, 0, 0, 0, 1, 0, 1, 1, 0);
        row(c, box, 1, 7, -1, 4, 0, 0, 200, 0, 200, 0, 0);
        c.same("put so far", box.value(2), 2);
        c.same("send is undoable", box.undo(), 1);
        c.same("in the box", box.value(0), 1);
        c.same("the number is free again", box.send(3, 3, 3), 1);
    }

    private static void bribed(Checks c) {
        int[][] bribeToRank = {{1, 0}, {24, 0}, {25, 1}, {49, 1}, {50, 2}, {74, 2}, {75, 3},
            {99, 3}, {100, 4}};
        for (int[] row : bribeToRank) {
            for (int rank = 0; rank <= 4; rank++) {
                PetitionBox box = new PetitionBox();
                c.same("sendBribed", box.sendBribed(2, rank, 30, row[0]), 0);
                row(c, box, 0, 2, -1, Math.min(4, rank + row[1]), 0, 0, 30, row[0], 30, 0, 1);
                c.same("bribes in the box", box.value(8), row[0]);
                c.same("sendBribed is undoable", box.undo(), 0);
                c.same("no bribes any more", box.value(8), 0);
            }
        }
    }

    private static void joint(Checks c) {
        PetitionBox box = new PetitionBox();
        c.same("sendJoint(6, 2, 3, 40)", box.sendJoint(6, 2, 3, 40), 0);
        row(c, box, 0, 6, 2, 3, 0, 0, 40, 0, 40, 0, 2);
        c.same("sendJoint(0, 7, 0, 1)", box.sendJoint(0, 7, 0, 1), 1);
        row(c, box, 1, 0, 7, 0, 0, 0, 1, 0, 1, 1, 2);
        c.same("sendJoint(7, 0, 4, 200)", box.sendJoint(7, 0, 4, 200), 2);
        row(c, box, 2, 7, 0, 4, 0, 0, 200, 0, 200, 0, 2);
        c.same("it counts for both", box.sentBy(7), 2);
        c.same("it counts for both", box.sentBy(0), 2);
        box.send(7, 1, 9);
        c.refuses(box, "the first one's quota", Checks.STATE, () -> box.sendJoint(7, 1, 1, 9));
        c.refuses(box, "the second one's quota", Checks.STATE, () -> box.sendJoint(1, 7, 1, 9));
        c.refuses(box, "a plain one's quota", Checks.STATE, () -> box.send(7, 1, 9));
        c.refuses(box, "a bribed one's quota", Checks.STATE, () -> box.sendBribed(7, 1, 9, 9));
        c.same("with others it goes", box.sendJoint(0, 1, 1, 9), 4);
        c.same("sendJoint is undoable", box.undo(), 3);
        c.same("none of 1 any more", box.sentBy(1), 0);
    }

    private static void arguments(Checks c) {
        PetitionBox box = new PetitionBox();
        box.send(0, 0, 10);
        for (int bad : new int[] {Integer.MIN_VALUE, -1, 8, Integer.MAX_VALUE}) {
            c.refuses(box, "send sender " + bad, Checks.ARGUMENT, () -> box.send(bad, 0, 9));
            c.refuses(box, "bribed sender " + bad, Checks.ARGUMENT, () -> box.sendBribed(bad, 0, 9, 9));
            c.refuses(box, "joint sender " + bad, Checks.ARGUMENT, () -> box.sendJoint(bad, 1, 0, 9));
            c.refuses(box, "joint second " + bad, Checks.ARGUMENT, () -> box.sendJoint(1, bad, 0, 9));
        }
        for (int bad : new int[] {Integer.MIN_VALUE, -1, 5, Integer.MAX_VALUE}) {
            c.refuses(box, "send rank " + bad, Checks.ARGUMENT, () -> box.send(1, bad, 9));
            c.refuses(box, "bribed rank " + bad, Checks.ARGUMENT, () -> box.sendBribed(1, bad, 9, 9));
            c.refuses(box, "joint rank " + bad, Checks.ARGUMENT, () -> box.sendJoint(1, 2, bad, 9));
        }
        for (int bad : new int[] {Integer.MIN_VALUE, -1, 0, 201, Integer.MAX_VALUE}) {
            c.refuses(box, "send bound " + bad, Checks.ARGUMENT, () -> box.send(1, 0, bad));
            c.refuses(box, "bribed bound " + bad, Checks.ARGUMENT, () -> box.sendBribed(1, 0, bad, 9));
            c.refuses(box, "joint bound " + bad, Checks.ARGUMENT, () -> box.sendJoint(1, 2, 0, bad));
        }
        for (int bad : new int[] {Integer.MIN_VALUE, -1, 0, 101, Integer.MAX_VALUE}) {
            c.refuses(box, "bribe " + bad, Checks.ARGUMENT, () -> box.sendBribed(1, 0, 9, bad));
        }
        for (int sender = 0; sender < 8; sender++) {
            int same = sender;
            c.refuses(box, "both the same", Checks.ARGUMENT, () -> box.sendJoint(same, same, 0, 9));
        }
        c.same("nothing was put in", box.value(2), 1);
    }

    private static void quotaComesSecond(Checks c) {
        PetitionBox box = new PetitionBox();
        box.setQuota(0);
        c.refuses(box, "send both wrong", Checks.ARGUMENT, () -> box.send(0, 0, 0));
        c.refuses(box, "bribed both wrong", Checks.ARGUMENT, () -> box.sendBribed(0, 0, 1, 0));
        c.refuses(box, "joint both wrong", Checks.ARGUMENT, () -> box.sendJoint(0, 0, 0, 1));
        c.refuses(box, "joint both wrong", Checks.ARGUMENT, () -> box.sendJoint(0, 1, 0, 0));
        c.refuses(box, "send quota 0", Checks.STATE, () -> box.send(0, 0, 1));
        c.refuses(box, "bribed quota 0", Checks.STATE, () -> box.sendBribed(0, 0, 1, 1));
        c.refuses(box, "joint quota 0", Checks.STATE, () -> box.sendJoint(0, 1, 0, 1));
    }

    private static void fullBox(Checks c) {
        PetitionBox box = new PetitionBox();
        box.setQuota(10);
        for (int i = 0; i < 40; i++) {
            c.same("send into the box", box.send(i % 8, i % 5, 200), i);
        }
        c.refuses(box, "send into a full box", Checks.STATE, () -> box.send(0, 0, 1));
        c.refuses(box, "bribed into a full box", Checks.STATE, () -> box.sendBribed(0, 0, 1, 1));
        c.refuses(box, "joint into a full box", Checks.STATE, () -> box.sendJoint(0, 1, 0, 1));
        c.refuses(box, "argument first", Checks.ARGUMENT, () -> box.send(0, 0, 0));
        box.serve();
        c.same("there is room again", box.sendJoint(0, 1, 0, 1), 40);
        c.same("40 again", box.value(0), 40);
    }

    private static void numbers(Checks c) {
        PetitionBox box = new PetitionBox();
        box.send(0, 0, 1);
        box.sendBribed(1, 0, 9, 9);
        box.pass(1);
        box.withdraw(1);
        c.same("numbers are not used again", box.sendJoint(2, 3, 0, 9), 2);
        c.same("put so far", box.value(2), 3);
    }
}

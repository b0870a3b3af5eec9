/** Promises 11 to 17: petition, peek, sentBy, returned, entry, value, ofRank. */
public final class ValuesTest {
    public static void main(String[] args) {
        Checks c = new Checks();
        PetitionBox box = busyBox();
        petition(c, box);
        peek(c, box);
        sentBy(c, box);
        returned(c, box);
        entry(c, box);
        value(c, box);
        ofRank(c, box);
        longLog(c);
        questionsSaveNothing(c);
        c.finish();
    }

    /**
     * Time 6. In the box: 1 (joint of 2 and 3), 3 (bribed by 5), 6 (plain of 0), 7 (bribed by 1).
     * Gone: 0 withdrawn, 2 served, 4 expired, 5 served.
     */
    private static PetitionBox busyBox() {
        PetitionBox box = new PetitionBox();
        box.setGrace(2);
        box.sendBribed(4, 0, 80, 7);     // 0
        box.sendJoint(2, 3, 0, 60);      // 1
        box.sendBribed(7, 2, 90, 61);    // 2, begins with rank 4
        box.sendBribed(5, 1, 70, 30);    // 3, begins with rank 2
        box.sendBribed(5, 0, 5, 13);     // 4
        box.withdraw(0);                 // returns 6 to 4, keeps 1
        box.pass(3);
        box.serve();                     // 2 after 3 ticks: returns 30 to 7, keeps 31
        box.sendBribed(7, 4, 9, 11);     // 5
        box.pass(2);                     // 4 expires: returns 13 to 5
        box.serve();                     // 5 after 2 ticks: keeps 11
        box.send(0, 4, 1);               // 6
        box.undo();
        box.send(0, 3, 200);             // 6
        box.pass(1);                     // 3 gets louder: rank 3
        box.sendBribed(1, 3, 2, 24);     // 7
        return box;
    }

    private static void row(Checks c, PetitionBox box, int number, int... due) {
        for (int what = 0; what < due.length; what++) {
            c.same("petition(" + number + ", " + what + ")", box.petition(number, what), due[what]);
        }
    }

    private static void petition(Checks c, PetitionBox box) {
        row(c, box, 1, 2, 3, 0, 6, 6, 60, 0, 54, 3, 2);
        row(c, box, 3, 5, -1, 3, 6, 0, 70, 30, 64, 0, 1);
        row(c, box, 6, 0, -1, 3, 1, 1, 200, 0, 199, 1, 0);
        row(c, box, 7, 1, -1, 3, 0, 0, 2, 24, 2, 2, 1);
        for (int what : new int[] {Integer.MIN_VALUE, -1, 10, 11, Integer.MAX_VALUE}) {
            c.refuses(box, "petition(3, " + what + ")", Checks.ARGUMENT, () -> box.petition(3, what));
        }
        for (int number : new int[] {Integer.MIN_VALUE, -1, 0, 2, 4, 5, 8, 40, Integer.MAX_VALUE}) {
            c.refuses(box, "petition(" + number + ", 0)", Checks.INDEX, () -> box.petition(number, 0));
            c.refuses(box, "petition(" + number + ", 10)", Checks.INDEX, () -> box.petition(number, 10));
        }
    }

    private static void peek(Checks c, PetitionBox box) {
        int[] due = {3, 6, 7, 1};
        for (int place = 0; place < due.length; place++) {
            c.same("peek(" + place + ")", box.peek(place), due[place]);
        }
        for (int place : new int[] {Integer.MIN_VALUE, -1, 4, 39, 40, Integer.MAX_VALUE}) {
            c.refuses(box, "peek(" + place + ")", Checks.INDEX, () -> box.peek(place));
        }
    }

    private static void sentBy(Checks c, PetitionBox box) {
        int[] due = {1, 1, 1, 1, 0, 1, 0, 0};
        for (int sender = 0; sender < 8; sender++) {
            c.same("sentBy(" + sender + ")", box.sentBy(sender), due[sender]);
        }
        for (int sender : new int[] {Integer.MIN_VALUE, -1, 8, Integer.MAX_VALUE}) {
            c.refuses(box, "sentBy(" + sender + ")", Checks.ARGUMENT, () -> box.sentBy(sender));
            c.refuses(box, "returned(" + sender + ")", Checks.ARGUMENT, () -> box.returned(sender));
        }
    }

    private static void returned(Checks c, PetitionBox box) {
        int[] due = {0, 0, 0, 0, 6, 13, 0, 30};
        for (int sender = 0; sender < 8; sender++) {
            c.same("returned(" + sender + ")", box.returned(sender), due[sender]);
        }
    }

    private static void entry(Checks c, PetitionBox box) {
        int[][] due = {{5, 0, 2, 0, 4}, {4, 1, 5, 13, 0}, {2, 0, 3, 30, 4}, {0, 2, 0, 6, 0}};
        for (int index = 0; index < due.length; index++) {
            for (int what = 0; what < 5; what++) {
                c.same("entry(" + index + ", " + what + ")", box.entry(index, what), due[index][what]);
            }
        }
        for (int index : new int[] {Integer.MIN_VALUE, -1, 4, 15, 16, Integer.MAX_VALUE}) {
            c.refuses(box, "entry(" + index + ", 0)", Checks.INDEX, () -> box.entry(index, 0));
            c.refuses(box, "entry(" + index + ", 5)", Checks.INDEX, () -> box.entry(index, 5));
        }
        for (int what : new int[] {Integer.MIN_VALUE, -1, 5, Integer.MAX_VALUE}) {
            c.refuses(box, "entry(0, " + what + ")", Checks.ARGUMENT, () -> box.entry(0, what));
        }
    }

    private static void value(Checks c, PetitionBox box) {
        int[] due = {4, 6, 8, 2, 1, 1, 1 + 31 + 11, 6 + 13 + 30, 30 + 24, 3, 4, 3, 2, 5};
        for (int what = 0; what < due.length; what++) {
            c.same("value(" + what + ")", box.value(what), due[what]);
        }
        for (int what : new int[] {Integer.MIN_VALUE, -1, 14, Integer.MAX_VALUE}) {
            c.refuses(box, "value(" + what + ")", Checks.ARGUMENT, () -> box.value(what));
        }
    }

    private static void ofRank(Checks c, PetitionBox box) {
        int[] due = {1, 0, 0, 3, 0};
        for (int rank = 0; rank <= 4; rank++) {
            c.same("ofRank(" + rank + ")", box.ofRank(rank), due[rank]);
        }
        for (int rank : new int[] {Integer.MIN_VALUE, -1, 5, Integer.MAX_VALUE}) {
            c.refuses(box, "ofRank(" + rank + ")", Checks.ARGUMENT, () -> box.ofRank(rank));
        }
    }

    /** Only the latest 16 entries are kept. */
    private static void longLog(Checks c) {
        PetitionBox box = new PetitionBox();
        for (int left = 1; left <= 20; left++) {
            box.send(left % 8, 0, 9);
            box.withdraw(left - 1);
            int kept = Math.min(16, left);
            c.same("value(10)", box.value(10), kept);
            for (int index = 0; index < kept; index++) {
                c.same("entry(" + index + ", 0)", box.entry(index, 0), left - 1 - index);
            }
            c.refuses(box, "entry(" + kept + ", 0)", Checks.INDEX, () -> box.entry(kept, 0));
        }
        box.undo();
        c.same("the entry that was dropped is back", box.entry(15, 0), 3);
        c.same("and the latest one is gone", box.entry(0, 0), 18);
    }

    private static void questionsSaveNothing(Checks c) {
        PetitionBox box = busyBox();
        long before = box.digest();
        for (int number : new int[] {1, 3, 6, 7}) {
            for (int what = 0; what <= 9; what++) {
                box.petition(number, what);
            }
            box.peek(number % 4);
            box.sentBy(number);
            box.returned(number);
            box.ofRank(number % 5);
            box.entry(number % 4, 0);
            box.value(number);
            box.rankIn(number, 30);
            box.servedIn(number);
            box.bribeToLead(number % 5);
        }
        box.firstToExpire();
        box.meanWait();
        c.same("questions change nothing", box.digest(), before);
    }
}

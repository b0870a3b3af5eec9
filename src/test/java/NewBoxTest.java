/** Promise 1: a new object. */
public final class NewBoxTest {
    public static void main(String[] args) {
        Checks c = new Checks();
        PetitionBox box = new PetitionBox();
        c.same("NONE", PetitionBox.NONE, -1);
        int[] due = {0, 0, 0, 0, 0, 0, 0, 0, 0, -1, 0, 3, 10, 0};
        for (int what = 0; what < due.length; what++) {
            c.same("value(" + what + ")", box.value(what), due[what]);
        }
        for (int sender = 0; sender < 8; sender++) {
            c.same("sentBy(" + sender + ")", box.sentBy(sender), 0);
            c.same("returned(" + sender + ")", box.returned(sender), 0);
        }
        for (int rank = 0; rank <= 4; rank++) {
            c.same("ofRank(" + rank + ")", box.ofRank(rank), 0);
            c.same("bribeToLead(" + rank + ")", box.bribeToLead(rank), 0);
        }
        c.same("firstToExpire()", box.firstToExpire(), -1);
        c.sameDouble("meanWait()", box.meanWait(), 0.0);
        refusals(c, box);
        c.same("clearText()", box.clearText(), 0);
        c.same("setPatience(0, 1)", box.setPatience(0, 1), 10);
        c.same("setPatience(1, 1)", box.setPatience(1, 1), 8);
        c.same("setPatience(2, 1)", box.setPatience(2, 1), 6);
        c.same("setPatience(3, 1)", box.setPatience(3, 1), 4);
        c.same("an object of its own", new PetitionBox().setPatience(3, 2), 4);
        c.finish();
    }

    private static void refusals(Checks c, PetitionBox box) {
        c.refuses(box, "peek(0)", Checks.INDEX, () -> box.peek(0));
        c.refuses(box, "entry(0, 0)", Checks.INDEX, () -> box.entry(0, 0));
        c.refuses(box, "petition(0, 0)", Checks.INDEX, () -> box.petition(0, 0));
        c.refuses(box, "withdraw(0)", Checks.INDEX, () -> box.withdraw(0));
        c.refuses(box, "servedIn(0)", Checks.INDEX, () -> box.servedIn(0));
        c.refuses(box, "rankIn(0, 0)", Checks.INDEX, () -> box.rankIn(0, 0));
        c.refuses(box, "serve()", Checks.NO_ELEMENT, () -> box.serve());
        c.refuses(box, "undo()", Checks.STATE, () -> box.undo());
    }
}

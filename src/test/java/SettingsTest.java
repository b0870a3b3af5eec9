/** Promises 2 to 4: setPatience, setQuota, setGrace. */
public final class SettingsTest {
    public static void main(String[] args) {
        Checks c = new Checks();
        patience(c);
        patienceWorks(c);
        quota(c);
        quotaWorks(c);
        grace(c);
        graceWorks(c);
        c.finish();
    }

    private static void patience(Checks c) {
        PetitionBox box = new PetitionBox();
        for (int rank = 0; rank < 4; rank++) {
            box.setPatience(rank, 1);
            c.same("previous patience of " + rank, box.setPatience(rank, 50), 1);
            c.same("previous patience of " + rank, box.setPatience(rank, 50), 50);
            c.same("setPatience is undoable", box.undo(), rank == 0 ? 2 : 3);
            for (int ticks : new int[] {Integer.MIN_VALUE, -1, 0, 51, 100, Integer.MAX_VALUE}) {
                int r = rank;
                c.refuses(box, "setPatience(" + rank + ", " + ticks + ")", Checks.ARGUMENT,
                        () -> box.setPatience(r, ticks));
            }
        }
        for (int rank : new int[] {Integer.MIN_VALUE, -1, 4, 5, Integer.MAX_VALUE}) {
            c.refuses(box, "setPatience(" + rank + ", 1)", Checks.INDEX, () -> box.setPatience(rank, 1));
            c.refuses(box, "setPatience(" + rank + ", 0)", Checks.INDEX, () -> box.setPatience(rank, 0));
        }
    }

    private static void patienceWorks(Checks c) {
        PetitionBox box = new PetitionBox();
        box.send(0, 1, 200);
        box.pass(5);
        box.setPatience(1, 3);
        c.same("no rank is gained without a tick", box.petition(0, 2), 1);
        c.same("nor are the ticks in it lost", box.petition(0, 4), 5);
        box.pass(1);
        c.same("one rank is gained in the tick", box.petition(0, 2), 2);
        c.same("the ticks in it begin again", box.petition(0, 4), 0);
        box.undo();
        box.undo();
        box.pass(1);
        c.same("the old patience is back", box.petition(0, 2), 1);
        c.same("the old patience is told", box.setPatience(1, 9), 8);
    }

    private static void quota(Checks c) {
        PetitionBox box = new PetitionBox();
        c.same("setQuota(0)", box.setQuota(0), 3);
        c.same("setQuota(10)", box.setQuota(10), 0);
        c.same("setQuota(10) again", box.setQuota(10), 10);
        c.same("value(11)", box.value(11), 10);
        for (int quota : new int[] {Integer.MIN_VALUE, -1, 11, Integer.MAX_VALUE}) {
            c.refuses(box, "setQuota(" + quota + ")", Checks.ARGUMENT, () -> box.setQuota(quota));
        }
        c.same("setQuota is undoable, even if it changes nothing", box.undo(), 2);
        c.same("the quota stays", box.value(11), 10);
        box.undo();
        c.same("the quota before", box.value(11), 0);
    }

    private static void quotaWorks(Checks c) {
        PetitionBox box = new PetitionBox();
        for (int i = 0; i < 3; i++) {
            c.same("up to the quota", box.send(5, 0, 100), i);
        }
        c.refuses(box, "beyond the quota", Checks.STATE, () -> box.send(5, 0, 100));
        box.setQuota(4);
        c.same("with the greater quota", box.send(5, 0, 100), 3);
        box.setQuota(0);
        c.same("a smaller quota removes none", box.value(0), 4);
        c.refuses(box, "quota 0", Checks.STATE, () -> box.send(6, 0, 100));
    }

    private static void grace(Checks c) {
        PetitionBox box = new PetitionBox();
        c.same("setGrace(0)", box.setGrace(0), 10);
        c.same("setGrace(200)", box.setGrace(200), 0);
        c.same("value(12)", box.value(12), 200);
        for (int grace : new int[] {Integer.MIN_VALUE, -1, 201, Integer.MAX_VALUE}) {
            c.refuses(box, "setGrace(" + grace + ")", Checks.ARGUMENT, () -> box.setGrace(grace));
        }
        c.same("setGrace is undoable", box.undo(), 1);
        c.same("the grace before", box.value(12), 0);
    }

    private static void graceWorks(Checks c) {
        for (int waits = 0; waits <= 3; waits++) {
            PetitionBox box = new PetitionBox();
            box.setGrace(2);
            box.sendBribed(1, 0, 100, 9);
            if (waits > 0) {
                box.pass(waits);
            }
            box.serve();
            c.same("returned after " + waits, box.returned(1), waits <= 2 ? 0 : 4);
            c.same("kept after " + waits, box.value(6), waits <= 2 ? 9 : 5);
        }
    }
}

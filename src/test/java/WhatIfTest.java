/** Promises 18 to 22: rankIn, firstToExpire, servedIn, bribeToLead, meanWait. */
public final class WhatIfTest {
    public static void main(String[] args) {
        Checks c = new Checks();
        rankIn(c);
        rankInRefuses(c);
        firstToExpire(c);
        servedIn(c);
        servedInOfMany(c);
        bribeToLead(c);
        bribeToLeadIsTrue(c);
        meanWait(c);
        c.finish();
    }

    private static void rankIn(Checks c) {
        for (int passed = 0; passed < 40; passed++) {
            PetitionBox box = new PetitionBox();
            box.send(0, 0, 40);
            if (passed > 0) {
                box.pass(passed);
            }
            for (int ticks = 0; ticks <= 200; ticks++) {
                int waited = passed + ticks;
                int due = waited >= 40 ? -1 : waited < 10 ? 0 : waited < 18 ? 1 : waited < 24 ? 2
                        : waited < 28 ? 3 : 4;
                c.same("rankIn(0, " + ticks + ") at " + passed, box.rankIn(0, ticks), due);
            }
        }
        PetitionBox other = new PetitionBox();
        other.send(0, 0, 200);
        other.send(1, 3, 200);
        other.pass(7);
        other.setPatience(0, 5);
        other.setPatience(1, 1);
        c.same("no tick", other.rankIn(0, 0), 0);
        c.same("a tick over the patience", other.rankIn(0, 1), 1);
        c.same("then one a tick", other.rankIn(0, 2), 2);
        c.same("200 ticks are too many", other.rankIn(0, 200), -1);
        c.same("192 are not", other.rankIn(0, 192), 4);
        c.same("193 are", other.rankIn(0, 193), -1);
        c.same("the other row", other.rankIn(1, 1), 4);
    }

    private static void rankInRefuses(Checks c) {
        PetitionBox box = new PetitionBox();
        box.send(0, 0, 200);
        box.send(0, 0, 200);
        box.withdraw(0);
        for (int ticks : new int[] {Integer.MIN_VALUE, -1, 201, Integer.MAX_VALUE}) {
            c.refuses(box, "rankIn(1, " + ticks + ")", Checks.ARGUMENT, () -> box.rankIn(1, ticks));
            c.refuses(box, "rankIn(0, " + ticks + ")", Checks.INDEX, () -> box.rankIn(0, ticks));
        }
        for (int number : Checks.FAR) {
            c.refuses(box, "rankIn(" + number + ", 0)", Checks.INDEX, () -> box.rankIn(number, 0));
            c.refuses(box, "servedIn(" + number + ")", Checks.INDEX, () -> box.servedIn(number));
        }
        c.refuses(box, "servedIn(0)", Checks.INDEX, () -> box.servedIn(0));
    }

    private static void firstToExpire(Checks c) {
        PetitionBox box = new PetitionBox();
        box.send(0, 0, 200);
        c.same("the only one", box.firstToExpire(), 0);
        box.send(1, 4, 30);
        c.same("the one with less left", box.firstToExpire(), 1);
        box.pass(10);
        box.send(2, 0, 20);
        c.same("of several the lowest", box.firstToExpire(), 1);
        box.send(3, 0, 19);
        c.same("one tick less", box.firstToExpire(), 3);
        box.withdraw(3);
        box.withdraw(1);
        c.same("the next one", box.firstToExpire(), 2);
        box.pass(20);
        c.same("the last one", box.firstToExpire(), 0);
        box.serve();
        c.same("none", box.firstToExpire(), -1);
    }

    private static void servedIn(Checks c) {
        PetitionBox box = new PetitionBox();
        box.send(0, 4, 1);
        box.send(1, 4, 1);
        box.send(2, 3, 3);
        box.send(3, 0, 2);
        box.send(4, 3, 3);
        c.same("at once", box.servedIn(0), 0);
        c.same("expires in the first tick", box.servedIn(1), -1);
        c.same("after one tick, as 1 has expired", box.servedIn(2), 1);
        c.same("expires in the second tick", box.servedIn(3), -1);
        c.same("after two ticks", box.servedIn(4), 2);
        c.same("nothing was done", box.value(0), 5);

        PetitionBox overtaken = new PetitionBox();
        overtaken.setPatience(1, 1);
        overtaken.setPatience(3, 50);
        overtaken.setPatience(2, 1);
        overtaken.send(0, 3, 90);
        overtaken.send(1, 3, 90);
        overtaken.send(2, 1, 90);
        overtaken.send(3, 3, 90);
        c.same("not overtaken", overtaken.servedIn(1), 1);
        c.same("louder as it waits, with a lower number", overtaken.servedIn(2), 2);
        c.same("the last one", overtaken.servedIn(3), 3);
    }

    private static void servedInOfMany(Checks c) {
        PetitionBox box = new PetitionBox();
        box.setQuota(10);
        for (int i = 0; i < 40; i++) {
            box.send(i % 8, 4, 200);
        }
        for (int number = 0; number < 40; number++) {
            c.same("servedIn(" + number + ")", box.servedIn(number), number);
        }
        box.pass(170);
        for (int number = 0; number < 40; number++) {
            c.same("servedIn(" + number + ") late", box.servedIn(number), number < 30 ? number : -1);
        }
    }

    private static void bribeToLead(Checks c) {
        for (int loudest = 0; loudest <= 4; loudest++) {
            PetitionBox box = new PetitionBox();
            box.send(0, 0, 100);
            box.send(1, loudest, 100);
            for (int rank = 0; rank <= 4; rank++) {
                int due = rank > loudest ? 0 : loudest == 4 ? -1 : 25 * (loudest + 1 - rank);
                c.same("bribeToLead(" + rank + ")", box.bribeToLead(rank), due);
            }
            c.same("no petition was put in", box.value(2), 2);
        }
        PetitionBox box = new PetitionBox();
        for (int rank : new int[] {Integer.MIN_VALUE, -1, 5, Integer.MAX_VALUE}) {
            c.refuses(box, "bribeToLead(" + rank + ")", Checks.ARGUMENT, () -> box.bribeToLead(rank));
        }
        box.setQuota(0);
        c.same("whatever the quota is", box.bribeToLead(0), 0);
        box.setQuota(10);
        for (int i = 0; i < 40; i++) {
            box.send(i % 8, 2, 200);
        }
        c.same("however many there are", box.bribeToLead(3), 0);
        c.same("however many there are", box.bribeToLead(1), 50);
    }

    /** What bribeToLead tells is tried out with sendBribed. */
    private static void bribeToLeadIsTrue(Checks c) {
        for (int loudest = 0; loudest <= 3; loudest++) {
            for (int rank = 0; rank <= loudest; rank++) {
                PetitionBox box = new PetitionBox();
                box.send(0, loudest, 100);
                int bribe = box.bribeToLead(rank);
                box.sendBribed(1, rank, 100, bribe);
                c.same("it leads", box.peek(0), 1);
                box.undo();
                box.sendBribed(1, rank, 100, bribe - 1);
                c.same("with a coin less it does not", box.peek(0), 0);
            }
        }
    }

    private static void meanWait(Checks c) {
        PetitionBox box = new PetitionBox();
        box.sendBribed(0, 0, 1, 10);
        box.pass(1);
        box.send(0, 0, 100);
        box.withdraw(1);
        c.sameDouble("none served", box.meanWait(), 0.0);
        box.send(0, 0, 100);
        box.serve();
        c.sameDouble("served at once", box.meanWait(), 0.0);
        box.send(1, 0, 100);
        box.pass(1);
        box.serve();
        c.sameDouble("1 over 2", box.meanWait(), 0.5);
        box.send(1, 0, 100);
        box.pass(9);
        box.serve();
        c.sameDouble("10 over 3", box.meanWait(), 10.0 / 3.0);
        box.undo();
        c.sameDouble("1 over 2 again", box.meanWait(), 0.5);
    }
}

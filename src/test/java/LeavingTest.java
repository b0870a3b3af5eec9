/** Promises 8 to 10: withdraw, serve, pass. */
public final class LeavingTest {
    public static void main(String[] args) {
        Checks c = new Checks();
        withdraw(c);
        withdrawRefuses(c);
        servedAtOnceOrLate(c);
        eachSenderGetsItsOwn(c);
        orderOfServing(c);
        tick(c);
        expiry(c);
        severalExpire(c);
        passRefuses(c);
        endOfTime(c);
        c.finish();
    }

    private static void entry(Checks c, PetitionBox box, int index, int... due) {
        for (int what = 0; what < due.length; what++) {
            c.same("entry(" + index + ", " + what + ")", box.entry(index, what), due[what]);
        }
    }

    private static void withdraw(Checks c) {
        for (int bribe = 1; bribe <= 100; bribe++) {
            PetitionBox box = new PetitionBox();
            box.send(0, 1, 9);
            box.sendBribed(5, 0, 90, bribe);
            box.send(1, 2, 9);
            c.same("withdraw(1) of " + bribe, box.withdraw(1), bribe - bribe / 4);
            c.same("returned(5)", box.returned(5), bribe - bribe / 4);
            c.same("kept", box.value(6), bribe / 4);
            c.same("withdrawn", box.value(5), 1);
            c.same("in the box", box.value(0), 2);
            entry(c, box, 0, 1, 2, 0, bribe - bribe / 4, Math.min(4, bribe / 25));
        }
        PetitionBox box = new PetitionBox();
        box.send(0, 0, 9);
        box.sendJoint(1, 2, 0, 9);
        c.same("a plain one returns nothing", box.withdraw(0), 0);
        c.same("a joint one returns nothing", box.withdraw(1), 0);
        c.same("no more of 2", box.sentBy(2), 0);
        c.same("withdraw is undoable", box.undo(), 3);
        c.same("it is back", box.petition(1, 1), 2);
    }

    private static void withdrawRefuses(Checks c) {
        PetitionBox box = new PetitionBox();
        box.send(0, 0, 9);
        box.send(0, 0, 9);
        box.withdraw(0);
        for (int number : Checks.FAR) {
            c.refuses(box, "withdraw(" + number + ")", Checks.INDEX, () -> box.withdraw(number));
        }
        c.refuses(box, "withdraw(0) again", Checks.INDEX, () -> box.withdraw(0));
        c.refuses(box, "withdraw(2)", Checks.INDEX, () -> box.withdraw(2));
    }

    private static void servedAtOnceOrLate(Checks c) {
        for (int waits = 9; waits <= 11; waits++) {
            for (int bribe = 1; bribe <= 100; bribe += 33) {
                PetitionBox box = new PetitionBox();
                box.sendBribed(3, 4, 90, bribe);
                box.pass(waits);
                c.same("serve()", box.serve(), 0);
                int back = waits <= 10 ? 0 : bribe / 2;
                c.same("returned(3)", box.returned(3), back);
                c.same("all returned", box.value(7), back);
                c.same("kept", box.value(6), bribe - back);
                c.same("served", box.value(3), 1);
                c.same("waits of the served", box.value(13), waits);
                entry(c, box, 0, 0, 0, waits, back, 4);
                c.same("serve is undoable", box.undo(), 2);
                c.same("none is served now", box.value(3), 0);
                c.same("its bribe is back", box.value(8), bribe);
            }
        }
    }

    private static void eachSenderGetsItsOwn(Checks c) {
        for (int sender = 0; sender < 8; sender++) {
            PetitionBox box = new PetitionBox();
            box.sendBribed(sender, 0, 30, 11);
            box.sendBribed(sender, 0, 20, 23);
            box.sendBribed((sender + 1) % 8, 4, 30, 41);
            c.same("withdrawn", box.withdraw(0), 9);
            box.pass(20);
            c.same("served", box.serve(), 2);
            for (int other = 0; other < 8; other++) {
                int due = other == sender ? 9 + 23 : other == (sender + 1) % 8 ? 20 : 0;
                c.same("returned(" + other + ")", box.returned(other), due);
            }
            c.same("all returned", box.value(7), 9 + 23 + 20);
            c.same("all kept", box.value(6), 2 + 21);
        }
    }

    private static void orderOfServing(Checks c) {
        PetitionBox box = new PetitionBox();
        box.setPatience(1, 50);
        box.setPatience(2, 50);
        box.send(0, 1, 99);
        box.pass(1);
        box.send(0, 2, 99);
        box.send(1, 1, 99);
        box.pass(1);
        box.send(2, 2, 99);
        box.send(3, 2, 99);
        box.sendBribed(4, 1, 99, 25);
        box.sendJoint(5, 6, 4, 99);
        int[] due = {6, 1, 3, 4, 5, 0, 2};
        for (int place = 0; place < due.length; place++) {
            c.same("peek(" + place + ")", box.peek(place), due[place]);
            c.same("served before", box.petition(due[place], 8), place);
        }
        for (int number : due) {
            c.same("serve()", box.serve(), number);
        }
        c.refuses(box, "serve() of an empty box", Checks.NO_ELEMENT, () -> box.serve());
    }

    private static void tick(Checks c) {
        PetitionBox box = new PetitionBox();
        box.send(0, 0, 200);
        int waited = 0;
        int[] patience = {10, 8, 6, 4};
        for (int rank = 0; rank < 4; rank++) {
            for (int ticks = 1; ticks <= patience[rank]; ticks++) {
                c.same("none expires", box.pass(1), 0);
                waited++;
                boolean louder = ticks == patience[rank];
                c.same("waited", box.petition(0, 3), waited);
                c.same("rank", box.petition(0, 2), louder ? rank + 1 : rank);
                c.same("in rank", box.petition(0, 4), louder ? 0 : ticks);
                c.same("left", box.petition(0, 7), 200 - waited);
            }
        }
        box.pass(60);
        c.same("rank 4 stays", box.petition(0, 2), 4);
        c.same("its ticks go on", box.petition(0, 4), 60);
        c.same("the time", box.value(1), 88);
        c.same("pass is undoable", box.undo(), 3);
        c.same("the time before", box.value(1), 28);
        c.same("the ticks before", box.petition(0, 4), 0);
    }

    private static void expiry(Checks c) {
        for (int bound = 9; bound <= 11; bound++) {
            PetitionBox box = new PetitionBox();
            box.sendBribed(6, 0, bound, 20);
            c.same("not yet", box.pass(bound - 1), 0);
            c.same("one tick left", box.petition(0, 7), 1);
            c.same("now", box.pass(1), 1);
            c.same("all of it is returned", box.returned(6), 20);
            c.same("nothing is kept", box.value(6), 0);
            c.same("expired", box.value(4), 1);
            c.same("no waits of served ones", box.value(13), 0);
            // At bound 10 the petition expires in the very tick that would make it louder.
            entry(c, box, 0, 0, 1, bound, 20, bound <= 10 ? 0 : 1);
            c.same("an empty box", box.value(9), -1);
        }
    }

    private static void severalExpire(Checks c) {
        PetitionBox box = new PetitionBox();
        box.setQuota(10);
        int[] bounds = {3, 5, 3, 4, 3, 200, 1};
        for (int bound : bounds) {
            box.send(0, bound % 5, bound);
        }
        c.same("pass(4)", box.pass(4), 5);
        int[] latestFirst = {3, 4, 2, 0, 6};
        int[] waited = {4, 3, 3, 3, 1};
        for (int i = 0; i < latestFirst.length; i++) {
            c.same("entry number", box.entry(i, 0), latestFirst[i]);
            c.same("entry waited", box.entry(i, 2), waited[i]);
        }
        c.same("left over", box.value(0), 2);
        c.same("each of them has waited", box.petition(1, 3), 4);
        c.same("each of them has waited", box.petition(5, 3), 4);
        c.same("pass(200)", box.pass(200), 2);
        c.same("pass with none", box.pass(200), 0);
    }

    private static void passRefuses(Checks c) {
        PetitionBox box = new PetitionBox();
        box.send(0, 0, 50);
        for (int ticks : new int[] {Integer.MIN_VALUE, -1, 0, 201, Integer.MAX_VALUE}) {
            c.refuses(box, "pass(" + ticks + ")", Checks.ARGUMENT, () -> box.pass(ticks));
        }
        c.same("no time passed", box.value(1), 0);
    }

    private static void endOfTime(Checks c) {
        PetitionBox box = new PetitionBox();
        for (int i = 0; i < 100; i++) {
            StringBuilder text = new StringBuilder();
            for (int orders = 0; orders < 25; orders++) {
                text.append("t40;");
            }
            if (i == 0) {
                Checks.write(box, text.toString());
            }
            c.same("carryOut()", box.carryOut(), 25);
        }
        c.same("the latest time", box.value(1), 100000);
        c.refuses(box, "pass(1) at the end", Checks.STATE, () -> box.pass(1));
        c.refuses(box, "pass(201) at the end", Checks.ARGUMENT, () -> box.pass(201));
        c.same("no order is carried out", box.carryOut(), 0);
        box.undo();
        box.undo();
        c.same("1000 ticks before", box.value(1), 99000);
        for (int i = 0; i < 4; i++) {
            box.pass(200);
        }
        box.pass(1);
        box.send(0, 2, 200);
        box.send(1, 2, 200);
        c.refuses(box, "no time for 200", Checks.STATE, () -> box.pass(200));
        c.same("just enough time", box.pass(199), 0);
        c.same("the latest time", box.value(1), 100000);
        box.send(2, 0, 50);
        c.same("what-ifs know no end of time", box.rankIn(2, 49), 4);
        c.same("what-ifs know no end of time", box.rankIn(2, 50), -1);
        c.same("served now", box.servedIn(0), 0);
        c.same("expires before its turn", box.servedIn(1), -1);
        c.same("served in a tick", box.servedIn(2), 1);
        c.same("carried out up to the first that would throw",
                Checks.carryOut(box, "s;t1;s;"), 1);
    }
}

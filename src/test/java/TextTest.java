/** Promises 23 to 25: append, clearText, carryOut. */
public final class TextTest {
    public static void main(String[] args) {
        Checks c = new Checks();
        append(c);
        noOrders(c);
        ordersWork(c);
        goodNumbers(c);
        syntaxErrors(c);
        prefixes(c);
        everyByte(c);
        afterAnError(c);
        upToTheFirstThatThrows(c);
        oneSavedState(c);
        c.finish();
    }

    private static void append(Checks c) {
        PetitionBox box = new PetitionBox();
        for (int value : new int[] {Integer.MIN_VALUE, -1, 128, 255, Integer.MAX_VALUE}) {
            c.refuses(box, "append(" + value + ")", Checks.ARGUMENT, () -> box.append(value));
        }
        c.same("append(0)", box.append(0), 1);
        c.same("append(127)", box.append(127), 2);
        c.same("clearText()", box.clearText(), 2);
        c.same("clearText() again", box.clearText(), 0);
        for (int i = 1; i <= 100; i++) {
            c.same("append", box.append(i % 2 == 1 ? 's' : ';'), i);
        }
        c.refuses(box, "append to 100 bytes", Checks.STATE, () -> box.append('s'));
        c.refuses(box, "append 128 to 100 bytes", Checks.ARGUMENT, () -> box.append(128));
        c.refuses(box, "neither append nor clearText is undoable", Checks.STATE, () -> box.undo());
        box.send(0, 0, 9);
        c.same("one order of 50", box.carryOut(), 1);
        c.same("the text stays", box.clearText(), 100);
        c.same("append after clearText", box.append('t'), 1);
    }

    private static void noOrders(Checks c) {
        PetitionBox box = new PetitionBox();
        c.same("carryOut() without orders", box.carryOut(), 0);
        c.same("saves a state", box.undo(), 0);
    }

    private static void ordersWork(Checks c) {
        PetitionBox box = new PetitionBox();
        c.same("carryOut()", Checks.carryOut(box, "p71,200;b02,33,100;p70,9;t3;s;b20,100,24;t9;"), 7);
        c.same("served", box.entry(1, 0), 1);
        c.same("bribe kept", box.value(6), 100);
        c.same("expired", box.entry(0, 0), 2);
        c.same("the time", box.value(1), 12);
        int[][] due = {{7, -1, 2, 12, 4, 200, 0, 188, 0, 0}, {2, -1, 0, 9, 9, 100, 24, 91, 1, 1}};
        for (int what = 0; what < 10; what++) {
            c.same("petition(0, " + what + ")", box.petition(0, what), due[0][what]);
            c.same("petition(3, " + what + ")", box.petition(3, what), due[1][what]);
        }
        c.same("the text stays as it is", box.carryOut(), 7);
        c.same("put so far", box.value(2), 8);
    }

    private static void goodNumbers(Checks c) {
        for (String bound : new String[] {"1", "01", "001", "200", "10", "010", "99", "199"}) {
            PetitionBox box = new PetitionBox();
            c.same("bound " + bound, Checks.carryOut(box, "p34," + bound + ";"), 1);
            c.same("its bound", box.petition(0, 5), Integer.parseInt(bound));
        }
        for (String bribe : new String[] {"1", "01", "001", "100", "99", "099"}) {
            PetitionBox box = new PetitionBox();
            c.same("bribe " + bribe, Checks.carryOut(box, "b30,7," + bribe + ";"), 1);
            c.same("its bribe", box.petition(0, 6), Integer.parseInt(bribe));
            c.same("its bound", box.petition(0, 5), 7);
        }
        for (String ticks : new String[] {"1", "01", "50", "49", "9"}) {
            PetitionBox box = new PetitionBox();
            c.same("ticks " + ticks, Checks.carryOut(box, "t" + ticks + ";"), 1);
            c.same("the time", box.value(1), Integer.parseInt(ticks));
        }
    }

    private static void error(Checks c, String text, int position) {
        PetitionBox box = new PetitionBox();
        box.send(0, 0, 50);
        Checks.write(box, text);
        long before = box.digest();
        c.same("carryOut() of " + text, box.carryOut(), -10 - position);
        c.same("digest() after " + text, box.digest(), before);
    }

    private static void syntaxErrors(Checks c) {
        error(c, "x", 0);
        error(c, ";", 0);
        error(c, " s;", 0);
        error(c, "S;", 0);
        error(c, "s ;", 1);
        error(c, "s;;", 2);
        error(c, "ss;", 1);
        error(c, "s;x", 2);
        error(c, "s1;", 1);
        error(c, "p80,1;", 1);
        error(c, "p90,1;", 1);
        error(c, "p/0,1;", 1);
        error(c, "p:0,1;", 1);
        error(c, "p05,1;", 2);
        error(c, "p0,1;", 2);
        error(c, "p00;", 3);
        error(c, "p000,1;", 3);
        error(c, "p00,;", 4);
        error(c, "p00,,", 4);
        error(c, "p00,-1;", 4);
        error(c, "p00,1,1;", 5);
        error(c, "p00,1 ;", 5);
        error(c, "p00,0;", 4);
        error(c, "p00,000;", 4);
        error(c, "p00,201;", 4);
        error(c, "p00,999;", 4);
        error(c, "p00,0x", 4);
        error(c, "p00,201 ", 4);
        error(c, "p00,0", 4);
        error(c, "p00,201", 4);
        error(c, "p00,2010;", 7);
        error(c, "p00,0000", 7);
        error(c, "p00,0001;", 7);
        error(c, "b00,5;", 5);
        error(c, "b00,0;", 4);
        error(c, "b00,0,0;", 4);
        error(c, "b00,201,101;", 4);
        error(c, "b00,1,0;", 6);
        error(c, "b00,1,101;", 6);
        error(c, "b00,1,101,", 6);
        error(c, "b00,1,101", 6);
        error(c, "b00,1,1011", 9);
        error(c, "b00,1,;", 6);
        error(c, "b00,1,1,", 7);
        error(c, "b00,1111,1;", 7);
        error(c, "t;", 1);
        error(c, "t0;", 1);
        error(c, "t00;", 1);
        error(c, "t51;", 1);
        error(c, "t99", 1);
        error(c, "t0,", 1);
        error(c, "t001;", 3);
        error(c, "t500;", 3);
        error(c, "t5,", 2);
        error(c, "s;t7;p11,7;q", 11);
        error(c, "s;t7;p11,7;t60;s;", 12);
        error(c, "p00,201;x", 4);
    }

    /** A text that ends too early has its error at its end. */
    private static void prefixes(Checks c) {
        for (String order : new String[] {"p00,117;", "b11,117,100;", "s;", "t11;"}) {
            for (int length = 1; length < order.length(); length++) {
                error(c, order.substring(0, length), length);
                error(c, "s;" + order.substring(0, length), 2 + length);
            }
        }
    }

    /** Tries each byte at each place of an order of each sort. */
    private static void everyByte(Checks c) {
        String[] orders = {"p00,50;", "b00,50,50;", "s;", "t20;"};
        String[] canStand = {"pbst|01234567|01234|,|0123456789|0123456789;|;0123456789",
            "pbst|01234567|01234|,|0123456789|0123456789,|,0123456789|0123456789|0123456789;|;0123456789",
            "pbst|;", "pbst|0123456789|0123456789;|;"};
        for (int i = 0; i < orders.length; i++) {
            String[] sets = canStand[i].split("\\|");
            for (int at = 0; at < orders[i].length(); at++) {
                for (int value = 0; value < 128; value++) {
                    if (sets[at].indexOf(value) < 0) {
                        error(c, orders[i].substring(0, at) + (char) value, at);
                    }
                }
            }
        }
    }

    private static void afterAnError(Checks c) {
        PetitionBox box = new PetitionBox();
        c.same("a text with an error", Checks.carryOut(box, "b00,9,9;t0;"), -19);
        c.same("the same again", box.carryOut(), -19);
        c.same("a text without one", Checks.carryOut(box, "p30,9;t2;"), 2);
        c.same("its petition is plain", box.petition(0, 9), 0);
        c.same("it has no bribe", box.petition(0, 6), 0);
        c.same("another error", Checks.carryOut(box, "s;t"), -13);
        box.append('3');
        c.same("one byte later", box.carryOut(), -14);
        box.append(';');
        c.same("then it is good", box.carryOut(), 2);
    }

    private static void upToTheFirstThatThrows(Checks c) {
        PetitionBox box = new PetitionBox();
        c.same("serve of an empty box", Checks.carryOut(box, "t1;s;t2;"), 1);
        c.same("the time", box.value(1), 1);
        c.same("the quota", Checks.carryOut(box, "p00,9;p00,9;b00,9,9;p00,9;t1;"), 3);
        c.same("the time", box.value(1), 1);
        c.same("the quota", Checks.carryOut(box, "b00,9,9;t1;"), 0);
        c.same("in the box", box.value(0), 3);
        box.setQuota(10);
        for (int i = 3; i < 39; i++) {
            box.send(i % 8, 0, 99);
        }
        c.same("40 in the box", Checks.carryOut(box, "p70,99;b60,99,9;s;"), 1);
        c.same("40 in the box", Checks.carryOut(box, "s;p60,99;t1;"), 3);
    }

    private static void oneSavedState(Checks c) {
        PetitionBox box = new PetitionBox();
        box.setQuota(2);
        long before = box.digest();
        Checks.write(box, "p00,9;p10,9;t1;s;");
        c.same("carryOut()", box.carryOut(), 4);
        c.same("one saved state", box.undo(), 1);
        box.clearText();
        c.same("all is as before", box.digest(), before);
        Checks.carryOut(box, "x");
        c.same("none for a syntax error", box.undo(), 0);
    }
}

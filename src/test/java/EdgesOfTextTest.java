/** The boundary cases of the text, sentence by sentence: its Terms and promises 23 to 25. */
public final class EdgesOfTextTest {
    public static void main(String[] args) {
        Checks c = new Checks();
        c.sentences(
                EdgesOfTextTest::hundredBytes,
                EdgesOfTextTest::noOrders,
                EdgesOfTextTest::semicolon,
                EdgesOfTextTest::plainSender,
                EdgesOfTextTest::plainRank,
                EdgesOfTextTest::plainBound,
                EdgesOfTextTest::bribedSender,
                EdgesOfTextTest::bribedRank,
                EdgesOfTextTest::bribedBound,
                EdgesOfTextTest::bribe,
                EdgesOfTextTest::serveOrder,
                EdgesOfTextTest::passOrder,
                EdgesOfTextTest::noSpaces,
                EdgesOfTextTest::zerosInFront,
                EdgesOfTextTest::firstByteThatCannotStand,
                EdgesOfTextTest::digitTooMany,
                EdgesOfTextTest::endsTooEarly,
                EdgesOfTextTest::rangeFoundByWhatFollows,
                EdgesOfTextTest::rangeNotYetFound,
                EdgesOfTextTest::firstErrorCounts,
                EdgesOfTextTest::appendValues,
                EdgesOfTextTest::appendLength,
                EdgesOfTextTest::appendFull,
                EdgesOfTextTest::appendBoth,
                EdgesOfTextTest::clearTextLength,
                EdgesOfTextTest::clearTextNotUndoable,
                EdgesOfTextTest::upToTheFirstByTheQuota,
                EdgesOfTextTest::upToTheFirstByTheBox,
                EdgesOfTextTest::upToTheFirstByTheEmptyBox,
                EdgesOfTextTest::upToTheFirstByTheTime,
                EdgesOfTextTest::textStays,
                EdgesOfTextTest::oneSavedState,
                EdgesOfTextTest::orderCount,
                EdgesOfTextTest::errorPositions,
                EdgesOfTextTest::errorChangesNothing);
        c.finish();
    }

    /** Room for the orders that the texts of these tests are made of. */
    private static PetitionBox ready() {
        PetitionBox box = Boxes.withQuota(10);
        box.send(0, 4, 200);
        return box;
    }

    private static void good(Checks c, String text, int orders) {
        c.same("carryOut() of " + text, Checks.carryOut(ready(), text), orders);
    }

    private static void bad(Checks c, String text, int position) {
        PetitionBox box = ready();
        Checks.write(box, text);
        long before = box.digest();
        c.same("carryOut() of " + text, box.carryOut(), -10 - position);
        c.same("digest() after " + text, box.digest(), before);
    }

    // ---- the Terms

    private static void hundredBytes(Checks c) {
        c.sentence("The text has at most 100 bytes.");
        PetitionBox box = Boxes.withText(99);
        c.same("the 100th", box.append(';'), 100);
        c.refuses(box, "the 101st", Checks.STATE, () -> box.append(';'));
        box.setQuota(10);
        for (int i = 0; i < 40; i++) {
            box.send(i % 8, 0, 200);
        }
        c.same("as many orders as the box can fulfil", box.carryOut(), 40);
        PetitionBox ticks = new PetitionBox();
        c.same("25 orders of four bytes", Checks.carryOut(ticks, "t50;".repeat(25)), 25);
        c.same("the time", ticks.value(1), 1250);
    }

    private static void noOrders(Checks c) {
        c.sentence("there may be no orders");
        PetitionBox box = new PetitionBox();
        c.same("an empty text", box.carryOut(), 0);
        c.same("it is carried out", box.undo(), 0);
        box.append('s');
        box.clearText();
        c.same("a text that was emptied", box.carryOut(), 0);
    }

    private static void semicolon(Checks c) {
        c.sentence("a sequence of orders, each terminated by a semicolon");
        good(c, "s;", 1);
        good(c, "t1;s;t1;", 3);
        bad(c, "s", 1);
        bad(c, "t1;s", 4);
        bad(c, "ss;", 1);
        bad(c, "s:", 1);
        bad(c, "s,", 1);
        bad(c, "t1;;", 3);
        bad(c, ";", 0);
        bad(c, "p00,1,", 5);
        bad(c, "b00,1,1,", 7);
    }

    private static void range(Checks c, String before, int least, int greatest, String behind) {
        for (int value = 0; value < 128; value++) {
            String text = before + (char) value + behind;
            if (value >= '0' + least && value <= '0' + greatest) {
                good(c, text, 1);
            } else {
                bad(c, text, before.length());
            }
        }
    }

    private static void plainSender(Checks c) {
        c.sentence("\"p\", a sender digit 0 to 7");
        range(c, "p", 0, 7, "0,9;");
        for (int sender = 0; sender <= 7; sender++) {
            PetitionBox box = new PetitionBox();
            Checks.carryOut(box, "p" + sender + "4,9;");
            c.same("its sender", box.petition(0, 0), sender);
            c.same("its kind", box.petition(0, 9), 0);
        }
    }

    private static void plainRank(Checks c) {
        c.sentence("p: a rank digit 0 to 4");
        range(c, "p7", 0, 4, ",9;");
        for (int rank = 0; rank <= 4; rank++) {
            PetitionBox box = new PetitionBox();
            Checks.carryOut(box, "p7" + rank + ",9;");
            c.same("its rank", box.petition(0, 2), rank);
        }
    }

    private static void plainBound(Checks c) {
        c.sentence("p: a comma, and a bound of one to three digits, 1 to 200");
        for (int bound = 0; bound <= 999; bound++) {
            if (bound >= 1 && bound <= 200) {
                PetitionBox box = new PetitionBox();
                c.same("bound " + bound, Checks.carryOut(box, "p00," + bound + ";"), 1);
                c.same("its bound", box.petition(0, 5), bound);
            } else {
                bad(c, "p00," + bound + ";", 4);
            }
        }
        bad(c, "p00;", 3);
        bad(c, "p001;", 3);
        bad(c, "p00,;", 4);
        bad(c, "p00,1000;", 7);
    }

    private static void bribedSender(Checks c) {
        c.sentence("\"b\" with the same: a sender digit 0 to 7");
        range(c, "b", 0, 7, "0,9,9;");
        for (int sender = 0; sender <= 7; sender++) {
            PetitionBox box = new PetitionBox();
            Checks.carryOut(box, "b" + sender + "4,9,1;");
            c.same("its sender", box.petition(0, 0), sender);
            c.same("its kind", box.petition(0, 9), 1);
        }
    }

    private static void bribedRank(Checks c) {
        c.sentence("\"b\" with the same: a rank digit 0 to 4");
        range(c, "b7", 0, 4, ",9,9;");
        for (int rank = 0; rank <= 4; rank++) {
            PetitionBox box = new PetitionBox();
            Checks.carryOut(box, "b7" + rank + ",9,25;");
            c.same("its rank", box.petition(0, 2), Math.min(4, rank + 1));
        }
    }

    private static void bribedBound(Checks c) {
        c.sentence("\"b\" with the same: a bound of one to three digits, 1 to 200");
        for (int bound = 0; bound <= 999; bound++) {
            if (bound >= 1 && bound <= 200) {
                PetitionBox box = new PetitionBox();
                c.same("bound " + bound, Checks.carryOut(box, "b00," + bound + ",1;"), 1);
                c.same("its bound", box.petition(0, 5), bound);
            } else {
                bad(c, "b00," + bound + ",1;", 4);
            }
        }
        bad(c, "b00;", 3);
        bad(c, "b00,,1;", 4);
        bad(c, "b00,1000,1;", 7);
    }

    private static void bribe(Checks c) {
        c.sentence("another comma, and a bribe of one to three digits, 1 to 100");
        for (int bribe = 0; bribe <= 999; bribe++) {
            if (bribe >= 1 && bribe <= 100) {
                PetitionBox box = new PetitionBox();
                c.same("bribe " + bribe, Checks.carryOut(box, "b00,200," + bribe + ";"), 1);
                c.same("its bribe", box.petition(0, 6), bribe);
                c.same("its rank", box.petition(0, 2), bribe / 25);
            } else {
                bad(c, "b00,200," + bribe + ";", 8);
            }
        }
        bad(c, "b00,9;", 5);
        bad(c, "b00,9,;", 6);
        bad(c, "b00,9,1000;", 9);
    }

    private static void serveOrder(Checks c) {
        c.sentence("\"s\", to serve");
        PetitionBox box = Boxes.with(2, 0);
        c.same("carryOut()", Checks.carryOut(box, "s;"), 1);
        c.same("served", box.value(3), 1);
        c.same("which one", box.entry(0, 0), 0);
        bad(c, "s1;", 1);
        bad(c, "S;", 0);
    }

    private static void passOrder(Checks c) {
        c.sentence("\"t\" and a number of one or two digits, 1 to 50");
        for (int ticks = 0; ticks <= 99; ticks++) {
            if (ticks >= 1 && ticks <= 50) {
                PetitionBox box = new PetitionBox();
                c.same("ticks " + ticks, Checks.carryOut(box, "t" + ticks + ";"), 1);
                c.same("the time", box.value(1), ticks);
            } else {
                bad(c, "t" + ticks + ";", 1);
            }
        }
        bad(c, "t;", 1);
        bad(c, "t100;", 3);
        bad(c, "t050;", 3);
    }

    private static void noSpaces(Checks c) {
        c.sentence("There are no spaces");
        String[] orders = {"p71,20;", "b71,20,30;", "s;", "t20;"};
        for (String order : orders) {
            good(c, order, 1);
            for (int at = 0; at <= order.length(); at++) {
                for (String space : new String[] {" ", "\t", "\n"}) {
                    bad(c, order.substring(0, at) + space + order.substring(at), at);
                }
            }
        }
    }

    private static void zerosInFront(Checks c) {
        c.sentence("Numbers can have zeros in front.");
        String[] bounds = {"1", "01", "001", "10", "010", "99", "099"};
        for (String bound : bounds) {
            PetitionBox box = new PetitionBox();
            c.same("carryOut()", Checks.carryOut(box, "b00," + bound + "," + bound + ";"), 1);
            c.same("the bound " + bound, box.petition(0, 5), Integer.parseInt(bound));
            c.same("the bribe " + bound, box.petition(0, 6), Integer.parseInt(bound));
        }
        PetitionBox box = new PetitionBox();
        c.same("ticks with a zero in front", Checks.carryOut(box, "t01;t09;"), 2);
        c.same("the time", box.value(1), 10);
        for (String zeros : new String[] {"0", "00", "000"}) {
            bad(c, "p00," + zeros + ";", 4);
            bad(c, "b00,1," + zeros + ";", 6);
        }
        bad(c, "t0;", 1);
        bad(c, "t00;", 1);
        bad(c, "p00,0001;", 7);
        bad(c, "t001;", 3);
    }

    /** In each order, byte for byte, what can stand there if the bytes before it are these. */
    private static void firstByteThatCannotStand(Checks c) {
        c.sentence("the index of the first byte that cannot stand where it stands");
        String digits = "0123456789";
        check(c, "p00,50;", "pbst", "01234567", "01234", ",", digits, digits + ";", digits + ";");
        check(c, "b00,50,50;", "pbst", "01234567", "01234", ",", digits, digits + ",", digits + ",",
                digits, digits + ";", digits + ";");
        check(c, "p00,100;", "pbst", "01234567", "01234", ",", digits, digits + ";", digits + ";", ";");
        check(c, "b00,100,100;", "pbst", "01234567", "01234", ",", digits, digits + ",", digits + ",",
                ",", digits, digits + ";", digits + ";", ";");
        check(c, "s;", "pbst", ";");
        check(c, "t20;", "pbst", digits, digits + ";", ";");
    }

    private static void check(Checks c, String order, String... canStand) {
        for (int at = 0; at < canStand.length; at++) {
            for (int value = 0; value < 128; value++) {
                if (canStand[at].indexOf(value) < 0) {
                    bad(c, order.substring(0, at) + (char) value, at);
                    bad(c, order.substring(0, at) + (char) value + ";", at);
                    bad(c, "s;" + order.substring(0, at) + (char) value, at + 2);
                }
            }
        }
    }

    private static void digitTooMany(Checks c) {
        c.sentence("(a digit too many, too)");
        for (char digit = '0'; digit <= '9'; digit++) {
            bad(c, "p00,200" + digit + ";", 7);
            bad(c, "p00,200" + digit, 7);
            bad(c, "b00,200" + digit + ",1;", 7);
            bad(c, "b00,1,100" + digit + ";", 9);
            bad(c, "t50" + digit + ";", 3);
        }
        // Such a digit is found before what stands in front of it is known to be out of range.
        bad(c, "p00,2010;", 7);
        bad(c, "p00,0000;", 7);
        bad(c, "p00,9999", 7);
        bad(c, "b00,1,1010;", 9);
        bad(c, "b00,1,0001;", 9);
        bad(c, "t510;", 3);
        bad(c, "t000", 3);
    }

    private static void endsTooEarly(Checks c) {
        c.sentence("or the length of the text if the text ends too early");
        String[] orders = {"p00,100;", "b00,100,100;", "s;", "t50;", "p71,1;", "b71,1,1;", "t1;"};
        for (String order : orders) {
            good(c, order, 1);
            for (int length = 1; length < order.length(); length++) {
                bad(c, order.substring(0, length), length);
                bad(c, "s;t1;" + order.substring(0, length), 5 + length);
            }
        }
        bad(c, "t1;".repeat(33) + "s", 100);
    }

    private static void rangeFoundByWhatFollows(Checks c) {
        c.sentence("found when a byte that is no digit, whichever it is, or the end of the text, follows it");
        String[] bounds = {"0", "00", "000", "201", "202", "999"};
        String[] bribes = {"0", "00", "000", "101", "200", "999"};
        String[] ticks = {"0", "00", "51", "52", "99"};
        for (int value = -1; value < 128; value++) {
            if (value >= '0' && value <= '9') {
                continue;
            }
            String behind = value < 0 ? "" : "" + (char) value;
            for (String bound : bounds) {
                bad(c, "p00," + bound + behind, 4);
                bad(c, "b00," + bound + behind, 4);
            }
            for (String bribe : bribes) {
                bad(c, "b00,10," + bribe + behind, 7);
            }
            for (String number : ticks) {
                bad(c, "s;t" + number + behind, 3);
            }
        }
    }

    private static void rangeNotYetFound(Checks c) {
        c.sentence("For a number that is out of its range it is the index of its first digit; not for one within it");
        for (String inRange : new String[] {"1", "20", "200"}) {
            bad(c, "p00," + inRange + "x", 4 + inRange.length());
            bad(c, "p00," + inRange + ",", 4 + inRange.length());
            bad(c, "p00," + inRange, 4 + inRange.length());
            bad(c, "b00," + inRange + ";", 4 + inRange.length());
        }
        for (String inRange : new String[] {"1", "10", "100"}) {
            bad(c, "b00,9," + inRange + ",", 6 + inRange.length());
            bad(c, "b00,9," + inRange, 6 + inRange.length());
        }
        bad(c, "t50,", 3);
        bad(c, "t5,", 2);
    }

    private static void firstErrorCounts(Checks c) {
        c.sentence("the first one: what stands behind an error does not count");
        bad(c, "p00,0;t99;x", 4);
        bad(c, "x;t99;", 0);
        bad(c, "s;t99;p99", 3);
        bad(c, "b00,201,101;", 4);
        bad(c, "b00,1,101;t0;", 6);
        bad(c, "t1;".repeat(33) + "x", 99);
    }

    // ---- promise 23

    private static void appendValues(Checks c) {
        c.sentence("P23: Throws IllegalArgumentException if value is out of range");
        c.range("the byte", 0, 127, Checks.ARGUMENT, Boxes::empty, (box, v) -> box.append(v));
        c.range("the 100th byte", 0, 127, Checks.ARGUMENT, () -> Boxes.withText(99),
                (box, v) -> box.append(v));
        PetitionBox box = new PetitionBox();
        box.append(0);
        c.same("the byte 0 stands in the text", box.carryOut(), -10);
        PetitionBox other = new PetitionBox();
        Checks.write(other, "s;");
        other.append(127);
        c.same("the byte 127 stands in the text", other.carryOut(), -12);
    }

    private static void appendLength(Checks c) {
        c.sentence("P23: Returns the new length of the text.");
        PetitionBox box = new PetitionBox();
        for (int length = 1; length <= 100; length++) {
            c.same("append()", box.append(length % 128), length);
        }
        box.clearText();
        c.same("append() after clearText()", box.append('s'), 1);
    }

    private static void appendFull(Checks c) {
        c.sentence("P23: Throws IllegalStateException if the text has 100 bytes");
        PetitionBox box = Boxes.withText(99);
        c.same("to 99 bytes", box.append(';'), 100);
        for (int value : new int[] {0, 1, 's', ';', 126, 127}) {
            c.refuses(box, "to 100 bytes", Checks.STATE, () -> box.append(value));
        }
        box.clearText();
        c.same("once it is emptied", box.append(';'), 1);
    }

    private static void appendBoth(Checks c) {
        c.sentence("P23: IllegalArgumentException is listed first");
        PetitionBox box = Boxes.withText(100);
        for (int value : new int[] {Integer.MIN_VALUE, -1, 128, 256, Integer.MAX_VALUE}) {
            c.refuses(box, "a wrong byte to 100 bytes", Checks.ARGUMENT, () -> box.append(value));
        }
    }

    // ---- promise 24

    private static void clearTextLength(Checks c) {
        c.sentence("P24: Empties the text. Returns the length that it had.");
        for (int length : new int[] {0, 1, 2, 99, 100}) {
            PetitionBox box = Boxes.withText(length);
            c.same("clearText()", box.clearText(), length);
            c.same("clearText() again", box.clearText(), 0);
            c.same("digest()", box.digest(), new PetitionBox().digest());
            c.same("no order is left", box.carryOut(), 0);
        }
    }

    private static void clearTextNotUndoable(Checks c) {
        c.sentence("P23 and P24 are not undoable");
        PetitionBox box = Boxes.withText(3);
        c.refuses(box, "undo() of append()", Checks.STATE, () -> box.undo());
        box.clearText();
        c.refuses(box, "undo() of clearText()", Checks.STATE, () -> box.undo());
    }

    // ---- promise 25

    private static void upToTheFirstByTheQuota(Checks c) {
        c.sentence("P25: up to the first one that would throw an exception: the quota");
        for (String order : new String[] {"p00,9;", "b00,9,9;"}) {
            PetitionBox box = new PetitionBox();
            c.same("the fourth of three", Checks.carryOut(box, order.repeat(4) + "p10,9;t1;"), 3);
            c.same("that one is not in the box", box.value(0), 3);
            c.same("nor are those behind it", box.sentBy(1), 0);
            c.same("the time", box.value(1), 0);
            box.setQuota(0);
            c.same("with the quota 0", Checks.carryOut(box, order), 0);
        }
        PetitionBox joint = Boxes.withQuota(1);
        joint.sendJoint(0, 7, 0, 9);
        c.same("of a second sender", Checks.carryOut(joint, "p10,9;p70,9;"), 1);
    }

    private static void upToTheFirstByTheBox(Checks c) {
        c.sentence("P25: up to the first one that would throw an exception: 40 petitions");
        for (String order : new String[] {"p60,9;", "b60,9,9;"}) {
            PetitionBox box = Boxes.with(39, 0);
            c.same("the 41st", Checks.carryOut(box, "p70,200;" + order + "s;"), 1);
            c.same("in the box", box.value(0), 40);
            c.same("nothing was served", box.value(3), 0);
            c.same("once one is served", Checks.carryOut(box, "s;" + order + "t1;"), 3);
            c.same("in the box", box.value(0), 40);
        }
    }

    private static void upToTheFirstByTheEmptyBox(Checks c) {
        c.sentence("P25: up to the first one that would throw an exception: an empty box");
        PetitionBox box = new PetitionBox();
        c.same("at once", Checks.carryOut(box, "s;t1;"), 0);
        c.same("the time", box.value(1), 0);
        c.same("after the only one", Checks.carryOut(box, "p00,9;s;s;t1;"), 2);
        c.same("after it has expired", Checks.carryOut(box, "p00,9;t9;s;t1;"), 2);
        c.same("served", box.value(3), 1);
        c.same("the time", box.value(1), 9);
    }

    private static void upToTheFirstByTheTime(Checks c) {
        c.sentence("P25: up to the first one that would throw an exception: the time 100000");
        PetitionBox box = Boxes.atTime(99950);
        box.send(0, 0, 200);
        c.same("exactly 100000", Checks.carryOut(box, "t50;t1;s;"), 1);
        c.same("the time", box.value(1), 100000);
        c.same("what it had waited", box.petition(0, 3), 50);
        c.same("it was not served", box.value(3), 0);
        box.undo();
        box.pass(1);
        c.same("one too many", Checks.carryOut(box, "t50;t49;"), 0);
        c.same("the time", box.value(1), 99951);
        c.same("exactly 100000", Checks.carryOut(box, "t49;s;"), 2);
    }

    private static void textStays(Checks c) {
        c.sentence("P25: The text stays as it is.");
        PetitionBox box = new PetitionBox();
        Checks.write(box, "t1;s;");
        c.same("carryOut()", box.carryOut(), 1);
        c.same("carryOut() again", box.carryOut(), 1);
        box.send(0, 0, 9);
        c.same("carryOut() with a petition", box.carryOut(), 2);
        c.same("its length", box.append('x'), 6);
        c.same("with an error", box.carryOut(), -15);
        c.same("its length", box.clearText(), 6);
    }

    private static void oneSavedState(Checks c) {
        c.sentence("P25: Undoable (one saved state, also if no order is carried out), if there is no syntax error.");
        String[] texts = {"", "s;", "t1;", "p00,9;p10,9;t1;s;"};
        for (String text : texts) {
            PetitionBox box = Boxes.withSaved(1);
            Checks.write(box, text);
            long before = box.digest();
            box.carryOut();
            c.same("one saved state more", box.undo(), 1);
            c.same("all is as before", box.digest(), before);
        }
        PetitionBox many = Boxes.withSaved(4);
        many.carryOut();
        c.same("no more than 4", many.undo(), 3);
        many.undo();
        many.undo();
        many.undo();
        c.same("the oldest was dropped", many.value(12), 101);
        PetitionBox error = Boxes.withSaved(4);
        Checks.carryOut(error, "t1;x");
        for (int left = 3; left >= 0; left--) {
            c.same("none for a syntax error", error.undo(), left);
        }
        c.same("nor was one dropped", error.value(12), 10);
        PetitionBox none = Boxes.withText(1);
        none.carryOut();
        c.refuses(none, "none for a syntax error", Checks.STATE, () -> none.undo());
    }

    private static void orderCount(Checks c) {
        c.sentence("P25: Returns the number of orders that are carried out");
        for (int orders = 0; orders <= 33; orders++) {
            PetitionBox box = new PetitionBox();
            c.same(orders + " orders", Checks.carryOut(box, "t1;".repeat(orders)), orders);
            c.same("the time", box.value(1), orders);
        }
        for (int petitions : new int[] {0, 1, 39, 40}) {
            PetitionBox box = Boxes.with(petitions, 0);
            c.same("50 orders", Checks.carryOut(box, "s;".repeat(50)), petitions);
        }
    }

    private static void errorPositions(Checks c) {
        c.sentence("P25: -10 minus the syntax error position if there is a syntax error");
        c.same("at 0", Checks.carryOut(new PetitionBox(), "x"), -10);
        c.same("at 1", Checks.carryOut(new PetitionBox(), "s"), -11);
        c.same("at 99", Checks.carryOut(new PetitionBox(), "t1;".repeat(33) + ";"), -109);
        c.same("at 100, the end", Checks.carryOut(new PetitionBox(), "t1;".repeat(33) + "p"), -110);
        c.same("at 99, a range", Checks.carryOut(new PetitionBox(), "s;".repeat(49) + "t0"), -109);
        c.same("at 100, in a number", Checks.carryOut(new PetitionBox(), "s;".repeat(49) + "t1"), -110);
    }

    private static void errorChangesNothing(Checks c) {
        c.sentence("P25: (then nothing changes)");
        for (String text : new String[] {"s;t1;p00,9;x", "t1;t0;", "p00,9;p0", "s;s"}) {
            PetitionBox box = Boxes.with(3, 0);
            Checks.write(box, text);
            long before = box.digest();
            c.same("an error", box.carryOut() <= -10 ? 1 : 0, 1);
            c.same("digest()", box.digest(), before);
            c.same("the text", box.clearText(), text.length());
        }
    }
}

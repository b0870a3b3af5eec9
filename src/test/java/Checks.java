/** Counts the answers of one test that are not as due, prints them, and ends with 1 if there are any. */
final class Checks {
    /** A call of the box; the answers of type int are widened. */
    interface Call {
        long answer();
    }

    private int checked;
    private int wrong;

    void same(String what, long got, long due) {
        checked++;
        if (got != due) {
            fail(what + " answered " + got + ", due is " + due);
        }
    }

    void sameDouble(String what, double got, double due) {
        checked++;
        if (Double.compare(got, due) != 0) {
            fail(what + " answered " + got + ", due is " + due);
        }
    }

    /** The call must throw exactly this exception, no subclass of it, and must change nothing. */
    void refuses(PetitionBox box, String what, Class<? extends RuntimeException> due, Call call) {
        checked++;
        long before = box.digest();
        Class<?> thrown = null;
        try {
            call.answer();
        } catch (RuntimeException e) {
            thrown = e.getClass();
        }
        if (thrown != due) {
            fail(what + " threw " + thrown + ", due is " + due);
        }
        if (box.digest() != before) {
            fail(what + " threw, but changed the state");
        }
    }

    void fail(String message) {
        wrong++;
        if (wrong <= 40) {
            System.out.println(message);
        }
    }

    boolean allIsAsDue() {
        return wrong == 0;
    }

    void finish() {
        System.out.println(wrong == 0 ? checked + " answers as due" : wrong + " faults");
        if (wrong != 0) {
            System.exit(1);
        }
    }

    static final Class<IllegalArgumentException> ARGUMENT = IllegalArgumentException.class;
    static final Class<IllegalStateException> STATE = IllegalStateException.class;
    static final Class<IndexOutOfBoundsException> INDEX = IndexOutOfBoundsException.class;
    static final Class<java.util.NoSuchElementException> NO_ELEMENT =
            java.util.NoSuchElementException.class;

    /** Numbers that are out of every range of the document on either side. */
    static final int[] FAR = {Integer.MIN_VALUE, -1000000, -2, -1, 1000, 1000000, Integer.MAX_VALUE};

    static void write(PetitionBox box, String text) {
        box.clearText();
        for (int i = 0; i < text.length(); i++) {
            box.append(text.charAt(i));
        }
    }

    static int carryOut(PetitionBox box, String text) {
        write(box, text);
        return box.carryOut();
    }
}

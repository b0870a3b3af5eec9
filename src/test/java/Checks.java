/** Counts the answers of one test that are not as due, prints them, and ends with 1 if there are any. */
final class Checks {
    /** A call of the box; the answers of type int are widened. */
    interface Call {
        long answer();
    }

    /** A call of a box with one argument left open. */
    interface CallWith {
        long answer(PetitionBox box, int value);
    }

    /** Makes a new box each time. */
    interface Maker {
        PetitionBox make();
    }

    /** The test of one sentence of the document; it names the sentence first. */
    interface Sentence {
        void test(Checks c);
    }

    private static final int TOLD_FAULTS = 40;
    private static final int TOLD_FAULTS_OF_SENTENCE = 3;

    private int checked;
    private int wrong;
    private String sentence = "";
    private int wrongBeforeSentence;

    /** Runs the tests one by one; an exception ends the one that it comes from, and no other. */
    void sentences(Sentence... tests) {
        for (Sentence each : tests) {
            int checkedBefore = checked;
            wrongBeforeSentence = wrong;
            try {
                each.test(this);
            } catch (RuntimeException e) {
                fail("ended with " + e);
            }
            if (sentence.isEmpty() || checked == checkedBefore) {
                fail("no sentence is named, or nothing is checked");
            }
            sentence = "";
        }
    }

    /** Names the sentence of the document that is tested; each fault is told with it. */
    void sentence(String words) {
        sentence = words;
    }

    void same(String what, long got, long due) {
        checked++;
        if (got != due) {
            fail(what + " answered " + got + ", due is " + due);
        }
    }

    void sameDouble(String what, double got, double due) {
        checked++;
        if (Double.compare(got, due) != 0) {
            fail(what + " answered " + got + ", due is " + due);
        }
    }

    void differ(String what, long one, long other) {
        checked++;
        if (one == other) {
            fail(what + " answered " + one + " both times");
        }
    }

    /** The call must throw exactly this exception, no subclass of it, and must change nothing. */
    void refuses(PetitionBox box, String what, Class<? extends RuntimeException> due, Call call) {
        checked++;
        long before = box.digest();
        Class<?> thrown = thrownBy(call);
        if (thrown != due) {
            fail(what + " threw " + thrown + ", due is " + due);
        }
        if (box.digest() != before) {
            fail(what + " threw, but changed the state");
        }
    }

    private static Class<?> thrownBy(Call call) {
        try {
            call.answer();
            return null;
        } catch (RuntimeException e) {
            return e.getClass();
        }
    }

    /**
     * The call must accept each value of the range, with a new box each time, and must refuse the
     * values on both sides of it with exactly this exception.
     */
    void range(String what, int least, int greatest, Class<? extends RuntimeException> due,
            Maker maker, CallWith call) {
        for (int good = least; good <= greatest; good++) {
            checked++;
            PetitionBox box = maker.make();
            int value = good;
            Class<?> thrown = thrownBy(() -> call.answer(box, value));
            if (thrown != null) {
                fail(what + " with " + good + " threw " + thrown + ", due is an answer");
            }
        }
        int[] wrongOnes = {Integer.MIN_VALUE, -1000000, least - 2, least - 1, greatest + 1,
            greatest + 2, greatest + 256, greatest + 65536, 1000000, Integer.MAX_VALUE};
        for (int bad : wrongOnes) {
            PetitionBox box = maker.make();
            refuses(box, what + " with " + bad, due, () -> call.answer(box, bad));
        }
    }

    void fail(String message) {
        wrong++;
        if (sentence.isEmpty()) {
            if (wrong <= TOLD_FAULTS) {
                System.out.println(message);
            }
        } else if (wrong - wrongBeforeSentence <= TOLD_FAULTS_OF_SENTENCE) {
            System.out.println("[" + sentence + "] " + message);
        }
    }

    boolean allIsAsDue() {
        return wrong == 0;
    }

    void finish() {
        System.out.println(wrong == 0 ? checked + " answers as due" : wrong + " faults");
        if (wrong != 0) {
            System.exit(1);
        }
    }

    static final Class<IllegalArgumentException> ARGUMENT = IllegalArgumentException.class;
    static final Class<IllegalStateException> STATE = IllegalStateException.class;
    static final Class<IndexOutOfBoundsException> INDEX = IndexOutOfBoundsException.class;
    static final Class<java.util.NoSuchElementException> NO_ELEMENT =
            java.util.NoSuchElementException.class;

    /** Numbers that are out of every range of the document on either side. */
    static final int[] FAR = {Integer.MIN_VALUE, -1000000, -2, -1, 1000, 1000000, Integer.MAX_VALUE};

    static void write(PetitionBox box, String text) {
        box.clearText();
        for (int i = 0; i < text.length(); i++) {
            box.append(text.charAt(i));
        }
    }

    static int carryOut(PetitionBox box, String text) {
        write(box, text);
        return box.carryOut();
    }
}

import java.util.ArrayList;
import java.util.List;
import java.util.function.LongSupplier;

/**
 * All promises at once: long runs of calls, chosen by a fixed sequence of numbers, are made of the
 * class and of PlainModel, and each answer or exception of the one must be that of the other.
 */
public final class RandomRunsTest {
    private static final int RUNS = 600;
    private static final int CALLS = 512;

    private final Checks c;
    private final int run;
    private final PetitionBox box = new PetitionBox();
    private final PlainModel model = new PlainModel();
    private final List<String> made = new ArrayList<>();
    private final int wildness;
    private final int haste;
    private final boolean crowded;
    private long seed;

    private RandomRunsTest(Checks c, int run) {
        this.c = c;
        this.run = run;
        seed = run;
        wildness = pick(0, 2) == 0 ? pick(5, 20) : 60;
        haste = pick(1, 4);
        crowded = pick(0, 1) == 0;
    }

    public static void main(String[] args) {
        Checks c = new Checks();
        for (int run = 0; run < RUNS && c.allIsAsDue(); run++) {
            new RandomRunsTest(c, run).play();
        }
        c.finish();
    }

    private void play() {
        if (crowded) {
            int quota = pick(5, 10);
            same("setQuota(" + quota + ")", () -> box.setQuota(quota), () -> model.setQuota(quota));
        }
        if (run % 12 == 0) {
            goToTheEndOfTime();
        }
        while (made.size() < CALLS - 110 && c.allIsAsDue()) {
            step();
        }
        digest();
    }

    private int pick(int least, int greatest) {
        seed += 0x9E3779B97F4A7C15L;
        long z = seed;
        z = (z ^ (z >>> 30)) * 0xBF58476D1CE4E5B9L;
        z = (z ^ (z >>> 27)) * 0x94D049BB133111EBL;
        z ^= z >>> 31;
        return least + (int) Long.remainderUnsigned(z, greatest - least + 1L);
    }

    /** Mostly in the range, now and then at its edge, beyond it, or far away. */
    private int argument(int least, int greatest) {
        if (pick(0, wildness) > 0) {
            return pick(least, greatest);
        }
        int[] odd = {least, greatest, least - 1, greatest + 1, Integer.MIN_VALUE, Integer.MAX_VALUE};
        return odd[pick(0, odd.length - 1)];
    }

    private int number() {
        List<PlainModel.Petition> there = model.world.box;
        if (there.isEmpty() || pick(0, 14) == 0) {
            return argument(0, model.world.put + 1);
        }
        return there.get(pick(0, there.size() - 1)).number;
    }

    private int bound() {
        return crowded ? argument(pick(1, 150), 200) : argument(1, pick(1, 5) * 40);
    }

    private int ticks() {
        return argument(1, pick(0, 9) == 0 ? 200 : haste * 3);
    }

    private void same(String call, LongSupplier ofBox, LongSupplier ofModel) {
        made.add(call);
        String got = outcome(ofBox);
        String due = outcome(ofModel);
        c.same(call, 0, 0);
        if (!got.equals(due)) {
            c.fail("run " + run + ", call " + made.size() + ": " + call + " answered " + got
                    + ", due is " + due + "; the calls: " + made);
        }
    }

    private static String outcome(LongSupplier call) {
        try {
            return Long.toString(call.getAsLong());
        } catch (RuntimeException e) {
            return e.getClass().getName();
        }
    }

    private void digest() {
        same("digest()", box::digest, model::digest);
    }

    private void goToTheEndOfTime() {
        write("t50;".repeat(25));
        for (int i = 0; i < 79; i++) {
            same("carryOut()", box::carryOut, model::carryOut);
        }
        for (int i = 0; i < 4; i++) {
            int ticks = pick(150, 200);
            same("pass(" + ticks + ")", () -> box.pass(ticks), () -> model.pass(ticks));
        }
    }

    private void write(String text) {
        same("clearText()", box::clearText, model::clearText);
        for (char sign : text.toCharArray()) {
            append(sign);
        }
    }

    private void append(int value) {
        same("append(" + value + ")", () -> box.append(value), () -> model.append(value));
    }

    private void step() {
        int choice = pick(0, 99);
        if (choice < 30) {
            put();
        } else if (choice < 52) {
            change();
        } else if (choice < 62) {
            digest();
        } else if (choice < 96) {
            ask();
        } else {
            text();
        }
    }

    private void put() {
        int sender = argument(0, 7);
        int second = argument(0, 7);
        int rank = argument(0, 4);
        int bound = bound();
        int bribe = argument(1, 100);
        switch (pick(0, 2)) {
            case 0 -> same("send(" + sender + ", " + rank + ", " + bound + ")",
                    () -> box.send(sender, rank, bound), () -> model.send(sender, rank, bound));
            case 1 -> same("sendBribed(" + sender + ", " + rank + ", " + bound + ", " + bribe + ")",
                    () -> box.sendBribed(sender, rank, bound, bribe),
                    () -> model.sendBribed(sender, rank, bound, bribe));
            default -> same("sendJoint(" + sender + ", " + second + ", " + rank + ", " + bound + ")",
                    () -> box.sendJoint(sender, second, rank, bound),
                    () -> model.sendJoint(sender, second, rank, bound));
        }
    }

    private void change() {
        int choice = pick(0, 21);
        if (choice < 9) {
            int ticks = ticks();
            same("pass(" + ticks + ")", () -> box.pass(ticks), () -> model.pass(ticks));
        } else if (choice < 12) {
            same("serve()", box::serve, model::serve);
        } else if (choice < 15) {
            int number = number();
            same("withdraw(" + number + ")", () -> box.withdraw(number), () -> model.withdraw(number));
        } else if (choice < 18) {
            same("undo()", box::undo, model::undo);
        } else if (choice < 19) {
            int quota = argument(crowded ? 4 : 0, 10);
            same("setQuota(" + quota + ")", () -> box.setQuota(quota), () -> model.setQuota(quota));
        } else if (choice < 20) {
            int ticks = argument(0, pick(0, 1) == 0 ? 200 : 12);
            same("setGrace(" + ticks + ")", () -> box.setGrace(ticks), () -> model.setGrace(ticks));
        } else {
            int rank = argument(0, 3);
            int ticks = argument(1, pick(0, 1) == 0 ? 50 : 8);
            same("setPatience(" + rank + ", " + ticks + ")",
                    () -> box.setPatience(rank, ticks), () -> model.setPatience(rank, ticks));
        }
    }

    private void ask() {
        int number = number();
        int what = argument(0, pick(0, 1) == 0 ? 4 : 13);
        int index = argument(0, 15);
        int ticks = argument(0, pick(0, 1) == 0 ? 200 : 20);
        int sender = argument(0, 7);
        int rank = argument(0, 4);
        switch (pick(0, 11)) {
            case 0 -> same("petition(" + number + ", " + what + ")",
                    () -> box.petition(number, what), () -> model.petition(number, what));
            case 1 -> same("peek(" + index + ")", () -> box.peek(index), () -> model.peek(index));
            case 2 -> same("sentBy(" + sender + ")", () -> box.sentBy(sender), () -> model.sentBy(sender));
            case 3 -> same("returned(" + sender + ")",
                    () -> box.returned(sender), () -> model.returned(sender));
            case 4 -> same("entry(" + index + ", " + what + ")",
                    () -> box.entry(index, what), () -> model.entry(index, what));
            case 5 -> same("value(" + what + ")", () -> box.value(what), () -> model.value(what));
            case 6 -> same("ofRank(" + rank + ")", () -> box.ofRank(rank), () -> model.ofRank(rank));
            case 7 -> same("rankIn(" + number + ", " + ticks + ")",
                    () -> box.rankIn(number, ticks), () -> model.rankIn(number, ticks));
            case 8 -> same("firstToExpire()", box::firstToExpire, model::firstToExpire);
            case 9 -> same("servedIn(" + number + ")",
                    () -> box.servedIn(number), () -> model.servedIn(number));
            case 10 -> same("bribeToLead(" + rank + ")",
                    () -> box.bribeToLead(rank), () -> model.bribeToLead(rank));
            default -> same("meanWait()", () -> Double.doubleToLongBits(box.meanWait()),
                    () -> Double.doubleToLongBits(model.meanWait()));
        }
    }

    private void text() {
        switch (pick(0, 5)) {
            case 0 -> append(argument(0, 127));
            case 1 -> same("clearText()", box::clearText, model::clearText);
            case 2 -> same("carryOut()", box::carryOut, model::carryOut);
            default -> {
                write(orders());
                same("carryOut()", box::carryOut, model::carryOut);
                digest();
            }
        }
    }

    /** A text of orders, in every other one with a byte changed, added or taken away. */
    private String orders() {
        StringBuilder text = new StringBuilder();
        int orders = pick(0, 8);
        for (int i = 0; i < orders; i++) {
            text.append(order());
        }
        if (text.length() > 0 && pick(0, 1) == 0) {
            int at = pick(0, text.length() - 1);
            char sign = "pbst;,0123456789 x".charAt(pick(0, 17));
            switch (pick(0, 3)) {
                case 0 -> text.setCharAt(at, sign);
                case 1 -> text.insert(at, sign);
                case 2 -> text.deleteCharAt(at);
                default -> text.setLength(at);
            }
        }
        text.setLength(Math.min(100, text.length()));
        return text.toString();
    }

    private String order() {
        String sending = "" + pick(0, 7) + pick(0, 4) + "," + padded(argument(1, 200) % 1000, 3);
        return switch (pick(0, 3)) {
            case 0 -> "p" + sending + ";";
            case 1 -> "b" + sending + "," + padded(argument(1, 100) % 1000, 3) + ";";
            case 2 -> "s;";
            default -> "t" + padded(argument(1, 50) % 100, 2) + ";";
        };
    }

    private String padded(int number, int most) {
        String digits = Integer.toString(Math.abs(number));
        return digits.length() < most && pick(0, 3) == 0 ? "0" + digits : digits;
    }
}

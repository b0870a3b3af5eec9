import java.util.ArrayDeque;
import java.util.ArrayList;
import java.util.Comparator;
import java.util.Deque;
import java.util.List;
import java.util.NoSuchElementException;

/**
 * A second telling of the document, with the Java library and without a thought for its speed or
 * its room, against which RandomRunsTest holds the class. It shares no code with it on purpose.
 */
final class PlainModel {
    static final class Petition {
        final int number;
        final int sender;
        final int second;
        final int bound;
        final int bribe;
        int rank;
        int waited;
        int inRank;

        Petition(int number, int sender, int second, int rank, int bound, int bribe) {
            this.number = number;
            this.sender = sender;
            this.second = second;
            this.rank = rank;
            this.bound = bound;
            this.bribe = bribe;
        }

        Petition copy() {
            Petition other = new Petition(number, sender, second, rank, bound, bribe);
            other.waited = waited;
            other.inRank = inRank;
            return other;
        }

        boolean isOf(int who) {
            return sender == who || second == who;
        }
    }

    static final class World {
        int time;
        int quota = 3;
        int grace = 10;
        int put;
        int[] gone = new int[3];
        int kept;
        int waits;
        int[] patience = {10, 8, 6, 4};
        int[] returned = new int[8];
        List<Petition> box = new ArrayList<>();
        List<int[]> log = new ArrayList<>();

        World copy() {
            World other = new World();
            other.time = time;
            other.quota = quota;
            other.grace = grace;
            other.put = put;
            other.gone = gone.clone();
            other.kept = kept;
            other.waits = waits;
            other.patience = patience.clone();
            other.returned = returned.clone();
            for (Petition p : box) {
                other.box.add(p.copy());
            }
            other.log.addAll(log);
            return other;
        }

        List<Petition> order() {
            List<Petition> sorted = new ArrayList<>(box);
            sorted.sort(Comparator.comparingInt((Petition p) -> -p.rank)
                    .thenComparingInt(p -> -p.waited).thenComparingInt(p -> p.number));
            return sorted;
        }

        int leave(Petition p, int how) {
            int back = how == 1 ? p.bribe
                    : how == 2 ? p.bribe - p.bribe / 4
                    : p.waited <= grace ? 0 : p.bribe / 2;
            box.remove(p);
            returned[p.sender] += back;
            kept += p.bribe - back;
            gone[how]++;
            waits += how == 0 ? p.waited : 0;
            log.add(0, new int[] {p.number, how, p.waited, back, p.rank});
            return back;
        }

        int tick() {
            time++;
            int expired = 0;
            for (Petition p : new ArrayList<>(box)) {
                p.waited++;
                p.inRank++;
                if (p.waited >= p.bound) {
                    leave(p, 1);
                    expired++;
                } else if (p.rank < 4 && p.inRank >= patience[p.rank]) {
                    p.rank++;
                    p.inRank = 0;
                }
            }
            return expired;
        }
    }

    World world = new World();
    final StringBuilder text = new StringBuilder();
    private final Deque<World> saved = new ArrayDeque<>();

    private static void range(int value, int least, int greatest) {
        if (value < least || value > greatest) {
            throw new IllegalArgumentException();
        }
    }

    private static void mustHold(boolean holds) {
        if (!holds) {
            throw new IllegalStateException();
        }
    }

    private static void mustBe(boolean there) {
        if (!there) {
            throw new IndexOutOfBoundsException();
        }
    }

    private void save() {
        saved.push(world.copy());
        while (saved.size() > 4) {
            saved.removeLast();
        }
    }

    private static Petition find(World in, int number) {
        return in.box.stream().filter(p -> p.number == number).findFirst().orElse(null);
    }

    int setPatience(int rank, int ticks) {
        mustBe(rank >= 0 && rank <= 3);
        range(ticks, 1, 50);
        save();
        int before = world.patience[rank];
        world.patience[rank] = ticks;
        return before;
    }

    int setQuota(int quota) {
        range(quota, 0, 10);
        save();
        int before = world.quota;
        world.quota = quota;
        return before;
    }

    int setGrace(int ticks) {
        range(ticks, 0, 200);
        save();
        int before = world.grace;
        world.grace = ticks;
        return before;
    }

    private boolean full(int who) {
        return world.box.stream().filter(p -> p.isOf(who)).count() >= world.quota;
    }

    private int put(boolean saves, int sender, int second, int rank, int bound, int bribe) {
        mustHold(world.box.size() < 40 && !full(sender) && (second < 0 || !full(second)));
        if (saves) {
            save();
        }
        int start = Math.min(4, rank + bribe / 25);
        world.box.add(new Petition(world.put, sender, second, start, bound, bribe));
        return world.put++;
    }

    int send(int sender, int rank, int bound) {
        range(sender, 0, 7);
        range(rank, 0, 4);
        range(bound, 1, 200);
        return put(true, sender, -1, rank, bound, 0);
    }

    int sendBribed(int sender, int rank, int bound, int bribe) {
        range(sender, 0, 7);
        range(rank, 0, 4);
        range(bound, 1, 200);
        range(bribe, 1, 100);
        return put(true, sender, -1, rank, bound, bribe);
    }

    int sendJoint(int sender, int second, int rank, int bound) {
        range(sender, 0, 7);
        range(second, 0, 7);
        range(rank, 0, 4);
        range(bound, 1, 200);
        range(sender == second ? 1 : 0, 0, 0);
        return put(true, sender, second, rank, bound, 0);
    }

    int withdraw(int number) {
        mustBe(find(world, number) != null);
        save();
        return world.leave(find(world, number), 2);
    }

    int serve() {
        if (world.box.isEmpty()) {
            throw new NoSuchElementException();
        }
        save();
        Petition first = world.order().get(0);
        world.leave(first, 0);
        return first.number;
    }

    int pass(int ticks) {
        range(ticks, 1, 200);
        mustHold(world.time + ticks <= 100000);
        save();
        int expired = 0;
        for (int i = 0; i < ticks; i++) {
            expired += world.tick();
        }
        return expired;
    }

    int petition(int number, int what) {
        Petition p = find(world, number);
        mustBe(p != null);
        range(what, 0, 9);
        return new int[] {p.sender, p.second, p.rank, p.waited, p.inRank, p.bound, p.bribe,
            p.bound - p.waited, what == 8 ? world.order().indexOf(p) : 0,
            p.second >= 0 ? 2 : p.bribe > 0 ? 1 : 0}[what];
    }

    int peek(int place) {
        mustBe(place >= 0 && place < world.box.size());
        return world.order().get(place).number;
    }

    int sentBy(int sender) {
        range(sender, 0, 7);
        return (int) world.box.stream().filter(p -> p.isOf(sender)).count();
    }

    int returned(int sender) {
        range(sender, 0, 7);
        return world.returned[sender];
    }

    int entry(int index, int what) {
        mustBe(index >= 0 && index < Math.min(16, world.log.size()));
        range(what, 0, 4);
        return world.log.get(index)[what];
    }

    int value(int what) {
        range(what, 0, 13);
        int back = 0;
        for (int coins : world.returned) {
            back += coins;
        }
        return new int[] {world.box.size(), world.time, world.put, world.gone[0], world.gone[1],
            world.gone[2], world.kept, back, world.box.stream().mapToInt(p -> p.bribe).sum(),
            world.box.stream().mapToInt(p -> p.rank).max().orElse(-1),
            Math.min(16, world.log.size()), world.quota, world.grace, world.waits}[what];
    }

    int ofRank(int rank) {
        range(rank, 0, 4);
        return (int) world.box.stream().filter(p -> p.rank == rank).count();
    }

    int rankIn(int number, int ticks) {
        mustBe(find(world, number) != null);
        range(ticks, 0, 200);
        World later = world.copy();
        for (int i = 0; i < ticks; i++) {
            later.tick();
        }
        Petition p = find(later, number);
        return p == null ? -1 : p.rank;
    }

    int firstToExpire() {
        World later = world.copy();
        int none = later.log.size();
        while (!later.box.isEmpty()) {
            if (later.tick() > 0) {
                return later.log.stream().limit(later.log.size() - none)
                        .mapToInt(row -> row[0]).min().getAsInt();
            }
        }
        return -1;
    }

    int servedIn(int number) {
        mustBe(find(world, number) != null);
        World later = world.copy();
        for (int ticks = 0; find(later, number) != null; ticks++) {
            Petition first = later.order().get(0);
            if (first.number == number) {
                return ticks;
            }
            later.leave(first, 0);
            later.tick();
        }
        return -1;
    }

    int bribeToLead(int rank) {
        range(rank, 0, 4);
        for (int bribe = 0; bribe <= 100; bribe++) {
            World later = world.copy();
            Petition mine = new Petition(later.put, 0, -1, Math.min(4, rank + bribe / 25), 9, bribe);
            later.box.add(mine);
            if (later.order().get(0) == mine) {
                return bribe;
            }
        }
        return -1;
    }

    double meanWait() {
        return world.gone[0] == 0 ? 0.0 : (double) world.waits / (double) world.gone[0];
    }

    int append(int value) {
        range(value, 0, 127);
        mustHold(text.length() < 100);
        text.append((char) value);
        return text.length();
    }

    int clearText() {
        int length = text.length();
        text.setLength(0);
        return length;
    }

    int carryOut() {
        List<List<Integer>> orders = new ArrayList<>();
        int error = parse(text.toString(), orders);
        if (error >= 0) {
            return -10 - error;
        }
        save();
        int count = 0;
        for (List<Integer> order : orders) {
            if (!carriesOut(order)) {
                break;
            }
            count++;
        }
        return count;
    }

    private boolean carriesOut(List<Integer> order) {
        int sign = order.get(0);
        if (sign == 's') {
            if (world.box.isEmpty()) {
                return false;
            }
            world.leave(world.order().get(0), 0);
            return true;
        }
        if (sign == 't') {
            if (world.time + order.get(1) > 100000) {
                return false;
            }
            for (int i = 0; i < order.get(1); i++) {
                world.tick();
            }
            return true;
        }
        try {
            put(false, order.get(1), -1, order.get(2), order.get(3), sign == 'b' ? order.get(4) : 0);
            return true;
        } catch (IllegalStateException e) {
            return false;
        }
    }

    /**
     * Walks over the text with a template for each order: S a sender, R a rank, B a bound, C coins,
     * T ticks, anything else itself. Answers the syntax error position, or -1.
     */
    private static int parse(String text, List<List<Integer>> orders) {
        int at = 0;
        while (at < text.length()) {
            int sign = "pbst".indexOf(text.charAt(at));
            if (sign < 0) {
                return at;
            }
            List<Integer> order = new ArrayList<>();
            order.add((int) text.charAt(at));
            at++;
            for (char part : new String[] {"SR,B;", "SR,B,C;", ";", "T;"}[sign].toCharArray()) {
                int most = part == 'B' || part == 'C' ? 3 : part == 'T' ? 2 : 0;
                if (most > 0) {
                    int end = at;
                    while (end < text.length() && "0123456789".indexOf(text.charAt(end)) >= 0) {
                        end++;
                    }
                    if (end == at) {
                        return at;
                    }
                    if (end - at > most) {
                        return at + most;
                    }
                    int number = Integer.parseInt(text.substring(at, end));
                    if (number < 1 || number > (part == 'B' ? 200 : part == 'C' ? 100 : 50)) {
                        return at;
                    }
                    order.add(number);
                    at = end;
                } else {
                    String fit = part == 'S' ? "01234567" : part == 'R' ? "01234" : part + "";
                    if (at >= text.length() || fit.indexOf(text.charAt(at)) < 0) {
                        return at;
                    }
                    if (part == 'S' || part == 'R') {
                        order.add(text.charAt(at) - '0');
                    }
                    at++;
                }
            }
            orders.add(order);
        }
        return -1;
    }

    int undo() {
        mustHold(!saved.isEmpty());
        world = saved.pop();
        return saved.size();
    }

    long digest() {
        List<Integer> values = new ArrayList<>();
        values.add(text.length());
        for (int what = 0; what <= 13; what++) {
            values.add(value(what));
        }
        for (int ticks : world.patience) {
            values.add(ticks);
        }
        for (int coins : world.returned) {
            values.add(coins);
        }
        for (Petition p : world.order()) {
            values.add(p.number);
            for (int what = 0; what <= 9; what++) {
                values.add(petition(p.number, what));
            }
        }
        for (int index = 0; index < Math.min(16, world.log.size()); index++) {
            for (int v : world.log.get(index)) {
                values.add(v);
            }
        }
        values.add(saved.size());
        long h = 3659;
        for (int v : values) {
            h = 31 * h + v;
        }
        return h;
    }
}

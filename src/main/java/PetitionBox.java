import java.util.NoSuchElementException;

/**
 * A box for petitions that grow louder as they wait. ../shared/DOC.md holds the promises that this
 * class keeps.
 *
 * <p>All rows are made with the box and used again, so that no call makes an object of its own but
 * for the exception that it throws.
 */
public final class PetitionBox {
    public static final int NONE = -1;

    private static final int SENDERS = 8;
    private static final int LOUDEST = 4;
    private static final int PATIENCE_LIMIT = 50;
    private static final int QUOTA_LIMIT = 10;
    private static final int GRACE_LIMIT = 200;
    private static final int BOUND_LIMIT = 200;
    private static final int BRIBE_LIMIT = 100;
    private static final int COINS_A_RANK = 25;
    private static final int BOX_LIMIT = 40;
    private static final int PASS_LIMIT = 200;
    private static final int TIME_LIMIT = 100000;
    private static final int LOG_LIMIT = 16;
    private static final int SAVED_LIMIT = 4;
    private static final int TEXT_LIMIT = 100;
    private static final int BYTE_LIMIT = 127;
    private static final int ORDER_TICKS_LIMIT = 50;

    /** The columns of a petition; the first seven are numbered as petition() numbers them. */
    private static final int SENDER = 0;
    private static final int SECOND = 1;
    private static final int RANK = 2;
    private static final int WAITED = 3;
    private static final int IN_RANK = 4;
    private static final int BOUND = 5;
    private static final int BRIBE = 6;
    private static final int NUMBER = 7;
    private static final int PETITION_COLUMNS = 8;

    /** What petition() answers beyond the columns. */
    private static final int TICKS_LEFT = 7;
    private static final int SERVED_BEFORE = 8;
    private static final int KIND = 9;

    private static final int LOG_COLUMNS = 5;

    /** How a petition can leave the box, numbered as entry() numbers it. */
    private static final int SERVED = 0;
    private static final int EXPIRED = 1;
    private static final int WITHDRAWN = 2;
    private static final int WAYS_TO_LEAVE = 3;

    private static final int PLAIN_KIND = 0;
    private static final int BRIBED_KIND = 1;
    private static final int JOINT_KIND = 2;

    private static final int LAST_FIGURE = 13;
    private static final int SYNTAX_ERROR = -10;
    private static final long DIGEST_START = 3659L;

    private final State now;
    /** The state in which what-if questions are tried out. */
    private final State trial;
    private final SavedStates saved;
    private final OrderReader reader;
    /** The rows of the petitions in the order of serving, filled anew for each question. */
    private final int[] rowAtPlace;

    public PetitionBox() {
        now = new State();
        trial = new State();
        saved = new SavedStates();
        reader = new OrderReader();
        rowAtPlace = new int[BOX_LIMIT];
    }

    // ---- box

    public int setPatience(int rank, int ticks)
            throws IndexOutOfBoundsException, IllegalArgumentException {
        if (rank < 0 || rank >= now.patience.length) {
            throw new IndexOutOfBoundsException("no such rank with a patience");
        }
        checkRange(ticks, 1, PATIENCE_LIMIT);
        saved.add(now);
        int previous = now.patience[rank];
        now.patience[rank] = ticks;
        return previous;
    }

    public int setQuota(int quota) throws IllegalArgumentException {
        checkRange(quota, 0, QUOTA_LIMIT);
        saved.add(now);
        int previous = now.quota;
        now.quota = quota;
        return previous;
    }

    public int setGrace(int ticks) throws IllegalArgumentException {
        checkRange(ticks, 0, GRACE_LIMIT);
        saved.add(now);
        int previous = now.grace;
        now.grace = ticks;
        return previous;
    }

    public int send(int sender, int rank, int bound)
            throws IllegalArgumentException, IllegalStateException {
        checkSending(sender, rank, bound);
        checkRoom(sender, NONE);
        saved.add(now);
        return now.putIn(sender, NONE, rank, bound, 0);
    }

    public int sendBribed(int sender, int rank, int bound, int bribe)
            throws IllegalArgumentException, IllegalStateException {
        checkSending(sender, rank, bound);
        checkRange(bribe, 1, BRIBE_LIMIT);
        checkRoom(sender, NONE);
        saved.add(now);
        return now.putIn(sender, NONE, rank, bound, bribe);
    }

    public int sendJoint(int sender, int second, int rank, int bound)
            throws IllegalArgumentException, IllegalStateException {
        checkSending(sender, rank, bound);
        checkRange(second, 0, SENDERS - 1);
        if (second == sender) {
            throw new IllegalArgumentException("both senders are the same");
        }
        checkRoom(sender, second);
        saved.add(now);
        return now.putIn(sender, second, rank, bound, 0);
    }

    public int withdraw(int number) throws IndexOutOfBoundsException {
        int row = findRow(number);
        saved.add(now);
        return now.letLeave(row, WITHDRAWN);
    }

    public int serve() throws NoSuchElementException {
        if (now.petitions.count == 0) {
            throw new NoSuchElementException("the box is empty");
        }
        saved.add(now);
        return now.serveFirst();
    }

    public int pass(int ticks) throws IllegalArgumentException, IllegalStateException {
        checkRange(ticks, 1, PASS_LIMIT);
        if (!now.hasTimeFor(ticks)) {
            throw new IllegalStateException("the time would be too great");
        }
        saved.add(now);
        return now.letPass(ticks);
    }

    // ---- values

    public int petition(int number, int what)
            throws IndexOutOfBoundsException, IllegalArgumentException {
        int row = findRow(number);
        checkRange(what, 0, KIND);
        return now.petitions.tell(row, what);
    }

    public int peek(int place) throws IndexOutOfBoundsException {
        if (place < 0 || place >= now.petitions.count || place >= rowAtPlace.length) {
            throw new IndexOutOfBoundsException("there are not so many petitions");
        }
        now.petitions.arrange(rowAtPlace);
        return now.petitions.at(rowAtPlace[place], NUMBER);
    }

    public int sentBy(int sender) throws IllegalArgumentException {
        checkRange(sender, 0, SENDERS - 1);
        return now.petitions.countOfSender(sender);
    }

    public int returned(int sender) throws IllegalArgumentException {
        checkRange(sender, 0, SENDERS - 1);
        return now.givenBackTo(sender);
    }

    public int entry(int index, int what)
            throws IndexOutOfBoundsException, IllegalArgumentException {
        if (index < 0 || index >= now.log.count) {
            throw new IndexOutOfBoundsException("not so many entries are kept");
        }
        checkRange(what, 0, LOG_COLUMNS - 1);
        return now.log.at(index, what);
    }

    public int value(int what) throws IllegalArgumentException {
        checkRange(what, 0, LAST_FIGURE);
        return now.figure(what);
    }

    public int ofRank(int rank) throws IllegalArgumentException {
        checkRange(rank, 0, LOUDEST);
        return now.petitions.countOfRank(rank);
    }

    // ---- what if

    public int rankIn(int number, int ticks)
            throws IndexOutOfBoundsException, IllegalArgumentException {
        int row = findRow(number);
        checkRange(ticks, 0, PASS_LIMIT);
        trial.copyFrom(now);
        for (int passed = 0; passed < ticks; passed++) {
            if (trial.growOlder(row)) {
                return NONE;
            }
        }
        return trial.petitions.at(row, RANK);
    }

    public int firstToExpire() {
        int leastLeft = BOUND_LIMIT + 1;
        int first = NONE;
        for (int row = 0; row < now.petitions.count; row++) {
            int left = now.petitions.tell(row, TICKS_LEFT);
            if (left < leastLeft) {
                leastLeft = left;
                first = now.petitions.at(row, NUMBER);
            }
        }
        return first;
    }

    public int servedIn(int number) throws IndexOutOfBoundsException {
        findRow(number);
        trial.copyFrom(now);
        // Each round serves a petition, so the box is empty after BOX_LIMIT of them.
        for (int passed = 0; passed < BOX_LIMIT; passed++) {
            if (trial.serveFirst() == number) {
                return passed;
            }
            trial.letPass(1);
            if (trial.petitions.rowOf(number) == NONE) {
                return NONE;
            }
        }
        return NONE;
    }

    public int bribeToLead(int rank) throws IllegalArgumentException {
        checkRange(rank, 0, LOUDEST);
        // A new petition has waited 0 ticks and has the highest number, so only a louder rank leads.
        int rankNeeded = now.petitions.loudestRank() + 1;
        if (rankNeeded <= rank) {
            return 0;
        }
        if (rankNeeded > LOUDEST) {
            return NONE;
        }
        return (rankNeeded - rank) * COINS_A_RANK;
    }

    public double meanWait() {
        int servings = now.leftBy(SERVED);
        if (servings == 0) {
            return 0.0;
        }
        return (double) now.servedWait / (double) servings;
    }

    // ---- text

    public int append(int value) throws IllegalArgumentException, IllegalStateException {
        checkRange(value, 0, BYTE_LIMIT);
        if (!reader.text.add(value)) {
            throw new IllegalStateException("the text is full");
        }
        return reader.text.length;
    }

    public int clearText() {
        int previous = reader.text.length;
        reader.text.length = 0;
        return previous;
    }

    public int carryOut() {
        int error = reader.findError();
        if (error != NONE) {
            return SYNTAX_ERROR - error;
        }
        saved.add(now);
        int carriedOut = 0;
        reader.startAnew();
        while (carriedOut < TEXT_LIMIT && !reader.isAtEnd()) {
            reader.readOrder();
            if (!carryOutOrder()) {
                return carriedOut;
            }
            carriedOut++;
        }
        return carriedOut;
    }

    // ---- state

    public int undo() throws IllegalStateException {
        if (saved.count == 0) {
            throw new IllegalStateException("there is no saved state");
        }
        saved.takeLatest(now);
        return saved.count;
    }

    public long digest() {
        long hash = mix(DIGEST_START, reader.text.length);
        for (int what = 0; what <= LAST_FIGURE; what++) {
            hash = mix(hash, now.figure(what));
        }
        for (int rank = 0; rank < now.patience.length; rank++) {
            hash = mix(hash, now.patience[rank]);
        }
        for (int sender = 0; sender < SENDERS; sender++) {
            hash = mix(hash, now.givenBackTo(sender));
        }
        hash = mixPetitions(hash);
        hash = mixLog(hash);
        return mix(hash, saved.count);
    }

    // ---- helpers

    private static void checkRange(int value, int least, int greatest)
            throws IllegalArgumentException {
        if (value < least || value > greatest) {
            throw new IllegalArgumentException("an argument is out of range");
        }
    }

    private static void checkSending(int sender, int rank, int bound)
            throws IllegalArgumentException {
        checkRange(sender, 0, SENDERS - 1);
        checkRange(rank, 0, LOUDEST);
        checkRange(bound, 1, BOUND_LIMIT);
    }

    private void checkRoom(int sender, int second) throws IllegalStateException {
        if (!now.hasRoomFor(sender, second)) {
            throw new IllegalStateException("the quota or the box allows no more petitions");
        }
    }

    private int findRow(int number) throws IndexOutOfBoundsException {
        int row = now.petitions.rowOf(number);
        if (row == NONE) {
            throw new IndexOutOfBoundsException("no such petition is in the box");
        }
        return row;
    }

    /** Carries out the order that was read last, unless it would throw an exception. */
    private boolean carryOutOrder() {
        switch (reader.sign) {
            case 'p':
            case 'b':
                if (!now.hasRoomFor(reader.sender, NONE)) {
                    return false;
                }
                now.putIn(reader.sender, NONE, reader.rank, reader.bound, reader.bribe);
                return true;
            case 's':
                return now.serveFirst() != NONE;
            case 't':
                if (!now.hasTimeFor(reader.ticks)) {
                    return false;
                }
                now.letPass(reader.ticks);
                return true;
            default:
                return false;
        }
    }

    private static long mix(long hash, int value) {
        return 31L * hash + value;
    }

    private long mixPetitions(long start) {
        long hash = start;
        now.petitions.arrange(rowAtPlace);
        for (int place = 0; place < now.petitions.count && place < rowAtPlace.length; place++) {
            int row = rowAtPlace[place];
            hash = mix(hash, now.petitions.at(row, NUMBER));
            for (int what = 0; what <= KIND; what++) {
                hash = mix(hash, now.petitions.tell(row, what));
            }
        }
        return hash;
    }

    private long mixLog(long start) {
        long hash = start;
        for (int index = 0; index < now.log.count; index++) {
            for (int what = 0; what < LOG_COLUMNS; what++) {
                hash = mix(hash, now.log.at(index, what));
            }
        }
        return hash;
    }

    /** The petitions in the box, a row each, in ascending order of their numbers. */
    private static final class Petitions {
        int count;
        private final int[] cells = new int[BOX_LIMIT * PETITION_COLUMNS];

        int at(int row, int column) {
            if (row < 0 || row >= count || column < 0 || column >= PETITION_COLUMNS) {
                return NONE;
            }
            int cell = row * PETITION_COLUMNS + column;
            return cell >= 0 && cell < cells.length ? cells[cell] : NONE;
        }

        void set(int row, int column, int value) {
            if (row < 0 || row >= count || column < 0 || column >= PETITION_COLUMNS) {
                return;
            }
            int cell = row * PETITION_COLUMNS + column;
            if (cell >= 0 && cell < cells.length) {
                cells[cell] = value;
            }
        }

        /** Adds a row of zeros behind the others and returns it; NONE if the box is full. */
        int addRow() {
            if (count >= BOX_LIMIT) {
                return NONE;
            }
            int row = count;
            count++;
            for (int column = 0; column < PETITION_COLUMNS; column++) {
                set(row, column, 0);
            }
            return row;
        }

        void removeRow(int row) {
            if (row < 0 || row >= count || count > BOX_LIMIT) {
                return;
            }
            int behind = (row + 1) * PETITION_COLUMNS;
            int moved = count * PETITION_COLUMNS - behind;
            System.arraycopy(cells, behind, cells, row * PETITION_COLUMNS, moved);
            count--;
        }

        int rowOf(int number) {
            for (int row = 0; row < count; row++) {
                if (at(row, NUMBER) == number) {
                    return row;
                }
            }
            return NONE;
        }

        /** Answers as petition() does, for what = 0 to 9. */
        int tell(int row, int what) {
            switch (what) {
                case TICKS_LEFT:
                    return at(row, BOUND) - at(row, WAITED);
                case SERVED_BEFORE:
                    return countBefore(row);
                case KIND:
                    return kindOf(row);
                default:
                    return at(row, what);
            }
        }

        private int kindOf(int row) {
            if (at(row, SECOND) != NONE) {
                return JOINT_KIND;
            }
            return at(row, BRIBE) > 0 ? BRIBED_KIND : PLAIN_KIND;
        }

        /** Tells whether a petition is served before another one. */
        private boolean isBefore(int row, int other) {
            int rank = at(row, RANK);
            int otherRank = at(other, RANK);
            if (rank != otherRank) {
                return rank > otherRank;
            }
            int waited = at(row, WAITED);
            int otherWaited = at(other, WAITED);
            if (waited != otherWaited) {
                return waited > otherWaited;
            }
            return at(row, NUMBER) < at(other, NUMBER);
        }

        private int countBefore(int row) {
            int before = 0;
            for (int other = 0; other < count; other++) {
                if (isBefore(other, row)) {
                    before++;
                }
            }
            return before;
        }

        /** The row that is served first; NONE if the box is empty. */
        int firstRow() {
            int first = NONE;
            for (int row = 0; row < count; row++) {
                if (first == NONE || isBefore(row, first)) {
                    first = row;
                }
            }
            return first;
        }

        void arrange(int[] rowAtPlace) {
            for (int row = 0; row < count; row++) {
                int place = countBefore(row);
                if (place >= 0 && place < rowAtPlace.length) {
                    rowAtPlace[place] = row;
                }
            }
        }

        int countOfSender(int sender) {
            int found = 0;
            for (int row = 0; row < count; row++) {
                if (at(row, SENDER) == sender || at(row, SECOND) == sender) {
                    found++;
                }
            }
            return found;
        }

        int countOfRank(int rank) {
            int found = 0;
            for (int row = 0; row < count; row++) {
                if (at(row, RANK) == rank) {
                    found++;
                }
            }
            return found;
        }

        int loudestRank() {
            int loudest = NONE;
            for (int row = 0; row < count; row++) {
                loudest = Math.max(loudest, at(row, RANK));
            }
            return loudest;
        }

        int sumOfBribes() {
            int sum = 0;
            for (int row = 0; row < count; row++) {
                sum += at(row, BRIBE);
            }
            return sum;
        }

        void copyFrom(Petitions other) {
            count = other.count;
            System.arraycopy(other.cells, 0, cells, 0, cells.length);
        }
    }

    /** The latest petitions that left the box, a row each, the latest one first. */
    private static final class Log {
        int count;
        private final int[] cells = new int[LOG_LIMIT * LOG_COLUMNS];

        int at(int index, int column) {
            if (index < 0 || index >= count || column < 0 || column >= LOG_COLUMNS) {
                return NONE;
            }
            int cell = index * LOG_COLUMNS + column;
            return cell >= 0 && cell < cells.length ? cells[cell] : NONE;
        }

        void add(int number, int way, int waited, int givenBack, int rank) {
            System.arraycopy(cells, 0, cells, LOG_COLUMNS, cells.length - LOG_COLUMNS);
            cells[0] = number;
            cells[1] = way;
            cells[2] = waited;
            cells[3] = givenBack;
            cells[4] = rank;
            if (count < LOG_LIMIT) {
                count++;
            }
        }

        void copyFrom(Log other) {
            count = other.count;
            System.arraycopy(other.cells, 0, cells, 0, cells.length);
        }
    }

    /** Everything that undo() restores. */
    private static final class State {
        int quota = 3;
        int grace = 10;
        int servedWait;
        final int[] patience = {10, 8, 6, 4};
        final Petitions petitions = new Petitions();
        final Log log = new Log();
        private int time;
        private int putSoFar;
        private int coinsKept;
        private final int[] leavings = new int[WAYS_TO_LEAVE];
        private final int[] coinsGivenBack = new int[SENDERS];

        void copyFrom(State other) {
            quota = other.quota;
            grace = other.grace;
            servedWait = other.servedWait;
            time = other.time;
            putSoFar = other.putSoFar;
            coinsKept = other.coinsKept;
            System.arraycopy(other.patience, 0, patience, 0, patience.length);
            System.arraycopy(other.leavings, 0, leavings, 0, leavings.length);
            System.arraycopy(other.coinsGivenBack, 0, coinsGivenBack, 0, coinsGivenBack.length);
            petitions.copyFrom(other.petitions);
            log.copyFrom(other.log);
        }

        boolean hasRoomFor(int sender, int second) {
            return petitions.count < BOX_LIMIT
                    && quotaAllows(sender)
                    && (second == NONE || quotaAllows(second));
        }

        private boolean quotaAllows(int sender) {
            return petitions.countOfSender(sender) < quota;
        }

        /** Puts a petition into the box, which must have room for it, and returns its number. */
        int putIn(int sender, int second, int rank, int bound, int bribe) {
            int number = putSoFar;
            putSoFar++;
            int row = petitions.addRow();
            petitions.set(row, NUMBER, number);
            petitions.set(row, SENDER, sender);
            petitions.set(row, SECOND, second);
            petitions.set(row, RANK, Math.min(LOUDEST, rank + bribe / COINS_A_RANK));
            petitions.set(row, BOUND, bound);
            petitions.set(row, BRIBE, bribe);
            return number;
        }

        /** Serves the first petition and returns its number; NONE if the box is empty. */
        int serveFirst() {
            int row = petitions.firstRow();
            if (row == NONE) {
                return NONE;
            }
            int number = petitions.at(row, NUMBER);
            servedWait += petitions.at(row, WAITED);
            letLeave(row, SERVED);
            return number;
        }

        /** Takes a petition out of the box and returns what is returned of its bribe. */
        int letLeave(int row, int way) {
            int givenBack = bribeGivenBack(row, way);
            int sender = petitions.at(row, SENDER);
            coinsKept += petitions.at(row, BRIBE) - givenBack;
            if (sender >= 0 && sender < coinsGivenBack.length) {
                coinsGivenBack[sender] += givenBack;
            }
            if (way >= 0 && way < leavings.length) {
                leavings[way]++;
            }
            int waited = petitions.at(row, WAITED);
            log.add(petitions.at(row, NUMBER), way, waited, givenBack, petitions.at(row, RANK));
            petitions.removeRow(row);
            return givenBack;
        }

        private int bribeGivenBack(int row, int way) {
            int bribe = petitions.at(row, BRIBE);
            switch (way) {
                case SERVED:
                    return petitions.at(row, WAITED) <= grace ? 0 : bribe / 2;
                case EXPIRED:
                    return bribe;
                default:
                    return bribe - bribe / 4;
            }
        }

        boolean hasTimeFor(int ticks) {
            return ticks <= TIME_LIMIT - time;
        }

        /** Lets ticks pass and returns how many petitions expired in them. */
        int letPass(int ticks) {
            int expired = 0;
            for (int passed = 0; passed < ticks; passed++) {
                expired += letOneTickPass();
            }
            return expired;
        }

        private int letOneTickPass() {
            time++;
            int expired = 0;
            int row = 0;
            for (int unseen = petitions.count; unseen > 0; unseen--) {
                if (growOlder(row)) {
                    // The next petition moves into this row.
                    letLeave(row, EXPIRED);
                    expired++;
                } else {
                    row++;
                }
            }
            return expired;
        }

        /** Lets a tick pass for one petition and tells whether it expires now. */
        boolean growOlder(int row) {
            int waited = petitions.at(row, WAITED) + 1;
            petitions.set(row, WAITED, waited);
            if (waited >= petitions.at(row, BOUND)) {
                return true;
            }
            int rank = petitions.at(row, RANK);
            int inRank = petitions.at(row, IN_RANK) + 1;
            if (rank >= 0 && rank < patience.length && inRank >= patience[rank]) {
                petitions.set(row, RANK, rank + 1);
                inRank = 0;
            }
            petitions.set(row, IN_RANK, inRank);
            return false;
        }

        int givenBackTo(int sender) {
            return sender >= 0 && sender < coinsGivenBack.length ? coinsGivenBack[sender] : 0;
        }

        private int sumGivenBack() {
            int sum = 0;
            for (int coins : coinsGivenBack) {
                sum += coins;
            }
            return sum;
        }

        int leftBy(int way) {
            return way >= 0 && way < leavings.length ? leavings[way] : 0;
        }

        /** Answers as value() does. */
        int figure(int what) {
            switch (what) {
                case 0:
                    return petitions.count;
                case 1:
                    return time;
                case 2:
                    return putSoFar;
                case 3:
                    return leftBy(SERVED);
                case 4:
                    return leftBy(EXPIRED);
                case 5:
                    return leftBy(WITHDRAWN);
                case 6:
                    return coinsKept;
                case 7:
                    return sumGivenBack();
                case 8:
                    return petitions.sumOfBribes();
                case 9:
                    return petitions.loudestRank();
                case 10:
                    return log.count;
                case 11:
                    return quota;
                case 12:
                    return grace;
                default:
                    return servedWait;
            }
        }
    }

    /** The states that undo() can restore; a ring, so that the oldest is dropped without moves. */
    private static final class SavedStates {
        int count;
        private int oldest;
        private final State[] ring = new State[SAVED_LIMIT];

        SavedStates() {
            for (int slot = 0; slot < SAVED_LIMIT; slot++) {
                ring[slot] = new State();
            }
        }

        void add(State state) {
            if (count == SAVED_LIMIT) {
                oldest = (oldest + 1) % SAVED_LIMIT;
                count--;
            }
            State slot = slotBehindOldest(count);
            if (slot != null) {
                slot.copyFrom(state);
                count++;
            }
        }

        /** Copies the latest saved state, if there is one, into the given one and drops it. */
        void takeLatest(State state) {
            if (count == 0) {
                return;
            }
            count--;
            State slot = slotBehindOldest(count);
            if (slot != null) {
                state.copyFrom(slot);
            }
        }

        private State slotBehindOldest(int places) {
            int slot = (oldest + places) % SAVED_LIMIT;
            return slot >= 0 && slot < ring.length ? ring[slot] : null;
        }
    }

    /** The bytes of the text. */
    private static final class Text {
        int length;
        private final int[] bytes = new int[TEXT_LIMIT];

        /** The byte at an index; NONE where the text has none. */
        int at(int index) {
            return index >= 0 && index < length && index < bytes.length ? bytes[index] : NONE;
        }

        boolean add(int value) {
            if (length < 0 || length >= bytes.length) {
                return false;
            }
            bytes[length] = value;
            length++;
            return true;
        }
    }

    /**
     * Reads the text order by order. After the first syntax error all further reading does nothing,
     * so that the parts of an order can be read one behind the other without asking each time.
     */
    private static final class OrderReader {
        final Text text = new Text();
        /** The parts of the order that was read last; those that its sign does not use are 0. */
        int sign;
        int sender;
        int rank;
        int bound;
        int bribe;
        int ticks;
        private int position;
        private int error = NONE;

        void startAnew() {
            position = 0;
            error = NONE;
        }

        boolean isAtEnd() {
            return position >= text.length;
        }

        /** The syntax error position; NONE if there is no syntax error. */
        int findError() {
            startAnew();
            for (int orders = 0; orders < TEXT_LIMIT && error == NONE && !isAtEnd(); orders++) {
                readOrder();
            }
            return error;
        }

        void readOrder() {
            sign = text.at(position);
            sender = 0;
            rank = 0;
            bound = 0;
            bribe = 0;
            ticks = 0;
            position++;
            switch (sign) {
                case 'p':
                    readSending();
                    break;
                case 'b':
                    readSending();
                    readSign(',');
                    bribe = readNumber(3, BRIBE_LIMIT);
                    break;
                case 's':
                    break;
                case 't':
                    ticks = readNumber(2, ORDER_TICKS_LIMIT);
                    break;
                default:
                    error = position - 1;
                    break;
            }
            readSign(';');
        }

        private void readSending() {
            sender = readDigit(SENDERS - 1);
            rank = readDigit(LOUDEST);
            readSign(',');
            bound = readNumber(3, BOUND_LIMIT);
        }

        private void readSign(int wanted) {
            if (error != NONE) {
                return;
            }
            if (text.at(position) == wanted) {
                position++;
            } else {
                error = position;
            }
        }

        private int readDigit(int greatest) {
            if (error != NONE) {
                return 0;
            }
            int digit = text.at(position) - '0';
            if (digit < 0 || digit > greatest) {
                error = position;
                return 0;
            }
            position++;
            return digit;
        }

        /** Reads a number from 1 on. Its range counts only when no digit follows any more. */
        private int readNumber(int mostDigits, int greatest) {
            if (error != NONE) {
                return 0;
            }
            int start = position;
            int number = 0;
            for (int digits = 0; digits < mostDigits && isDigitNext(); digits++) {
                number = number * 10 + text.at(position) - '0';
                position++;
            }
            if (position == start || isDigitNext()) {
                error = position;
            } else if (number < 1 || number > greatest) {
                error = start;
            }
            return number;
        }

        private boolean isDigitNext() {
            int next = text.at(position);
            return next >= '0' && next <= '9';
        }
    }
}

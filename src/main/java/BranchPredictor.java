/**
 * A branch predictor that lets two predictors compete, with a predictor for loops above them.
 *
 * <p>All rows have their greatest length from the constructor on and are used again, so that
 * no call but the constructor makes objects (besides the exceptions that the document names).
 */
public final class BranchPredictor {
    private static final int FIRST_BITS = 4;
    private static final int LEAST_BITS = 2;
    private static final int MOST_BITS = 8;
    private static final int MOST_COUNTERS = 1 << MOST_BITS;
    private static final int LAST_PLACE = 65535;
    private static final int NO_PLACE = -1;
    /** A power of two, so that a mask keeps the ring's indices inside it. */
    private static final int MOST_IN_FLIGHT = 16;
    private static final int LOOPS = 8;
    private static final int MOST_TRUST = 3;
    private static final int MOST_COUNT = 1000;

    private static final int PLAIN = 0;
    private static final int GLOBAL = 1;
    private static final int CHOICE = 2;
    private static final int KINDS = 4;

    private static final int UNRESOLVED = 0;
    private static final int RIGHT = 1;
    private static final int WRONG = 2;

    private final CounterTable plainTable = new CounterTable();
    private final CounterTable globalTable = new CounterTable();
    private final CounterTable choiceTable = new CounterTable();
    private final Audit plainAudit = new Audit();
    private final Audit globalAudit = new Audit();
    private final Branch[] ring = new Branch[MOST_IN_FLIGHT];
    private final Loop[] loops = new Loop[LOOPS];
    private final long[] missed = new long[KINDS];
    private int plainBits = FIRST_BITS;
    private int globalBits = FIRST_BITS;
    private int historyBits = FIRST_BITS;
    private int outcomes;
    private int oldest;
    private int flying;
    private long committed;
    private long dropped;

    public BranchPredictor() {
        for (int i = 0; i < MOST_IN_FLIGHT; i++) {
            ring[i] = new Branch();
        }
        for (int i = 0; i < LOOPS; i++) {
            loops[i] = new Loop();
        }
        startAnew(FIRST_BITS, FIRST_BITS, FIRST_BITS);
    }

    public boolean setSizes(int p, int g, int h) throws IllegalArgumentException {
        if (!isTableBits(p) || !isTableBits(g) || h < 0 || h > g) {
            throw new IllegalArgumentException("p and g are 2 to 8, h is 0 to g");
        }
        boolean isOther = p != plainBits || g != globalBits || h != historyBits;
        startAnew(p, g, h);
        return isOther;
    }

    public boolean predict(int place) throws IllegalArgumentException, IllegalStateException {
        requirePlace(place);
        if (flying >= MOST_IN_FLIGHT) {
            throw new IllegalStateException("16 branches are in flight");
        }
        return launch(place);
    }

    public int resolve(int index, boolean isTaken)
            throws IndexOutOfBoundsException, IllegalStateException {
        requireInFlight(index);
        if (branchAt(index).state != UNRESOLVED) {
            throw new IllegalStateException("the branch is resolved already");
        }
        return settle(index, isTaken);
    }

    public boolean commit() throws IllegalStateException {
        if (flying == 0 || branchAt(0).state == UNRESOLVED) {
            throw new IllegalStateException("no branch can be committed");
        }
        return retire();
    }

    public boolean train(int place, boolean isTaken)
            throws IllegalArgumentException, IllegalStateException {
        requirePlace(place);
        if (flying != 0) {
            throw new IllegalStateException("a branch is in flight");
        }
        launch(place);
        settle(0, isTaken);
        return !retire();
    }

    public int flush(int many) throws IllegalArgumentException {
        if (many < 0 || many > flying) {
            throw new IllegalArgumentException("there are not so many branches in flight");
        }
        if (many > 0) {
            int first = flying - many;
            outcomes = branchAt(first).historyAhead;
            dropFrom(first);
        }
        return flying;
    }

    public int inFlight() {
        return flying;
    }

    public int place(int index) throws IndexOutOfBoundsException {
        requireInFlight(index);
        return branchAt(index).place;
    }

    public int state(int index) throws IndexOutOfBoundsException {
        requireInFlight(index);
        return branchAt(index).state;
    }

    public boolean predicted(int index, int which) throws IndexOutOfBoundsException {
        requireInFlight(index);
        requireKind(which);
        return branchAt(index).saidTaken(which);
    }

    public int history() {
        return outcomes;
    }

    public int counter(int table, int index) throws IndexOutOfBoundsException {
        if (table < PLAIN || table > CHOICE) {
            throw new IndexOutOfBoundsException("a table is 0 to 2");
        }
        CounterTable counters = tableWith(table);
        if (index < 0 || index >= counters.size) {
            throw new IndexOutOfBoundsException("there is no such counter");
        }
        return counters.valueAt(index);
    }

    public int loop(int number, int what) throws IndexOutOfBoundsException {
        if (number < 0 || number >= LOOPS || what < 0 || what > 4) {
            throw new IndexOutOfBoundsException("a number is 0 to 7, what is 0 to 4");
        }
        Loop entry = loops[number];
        if (entry.isFree()) {
            return -1;
        }
        switch (what) {
            case 0:
                return entry.place;
            case 1:
                return entry.count;
            case 2:
                return entry.trip;
            case 3:
                return entry.trust;
            default:
                return presumedCount(entry);
        }
    }

    public long commits() {
        return committed;
    }

    public long misses(int which) throws IndexOutOfBoundsException {
        requireKind(which);
        return missed[which];
    }

    public long drops() {
        return dropped;
    }

    public long meetings(int table, boolean isHarmful) throws IndexOutOfBoundsException {
        if (table != PLAIN && table != GLOBAL) {
            throw new IndexOutOfBoundsException("a table with meetings is 0 or 1");
        }
        Audit audit = table == PLAIN ? plainAudit : globalAudit;
        return isHarmful ? audit.harmfulMeetings : audit.allMeetings;
    }

    public double accuracy() {
        if (committed == 0) {
            return 1.0;
        }
        long right = committed - missed[KINDS - 1];
        return (double) right / (double) committed;
    }

    public long digest() {
        long d = 71;
        d = mix(d, plainBits);
        d = mix(d, globalBits);
        d = mix(d, historyBits);
        d = mix(d, outcomes);
        d = plainTable.mixInto(d);
        d = globalTable.mixInto(d);
        d = choiceTable.mixInto(d);
        for (int i = 0; i < LOOPS; i++) {
            d = loops[i].mixInto(d);
        }
        for (int i = 0; i < flying; i++) {
            d = mix(d, branchAt(i).place);
            d = mix(d, branchAt(i).state);
        }
        d = mix(d, committed);
        d = mix(d, dropped);
        d = mix(d, plainAudit.allMeetings);
        return mix(d, globalAudit.allMeetings);
    }

    private static long mix(long d, long x) {
        return d * 31 + x;
    }

    private static boolean isTableBits(int bits) {
        return bits >= LEAST_BITS && bits <= MOST_BITS;
    }

    private static void requirePlace(int place) {
        if (place < 0 || place > LAST_PLACE) {
            throw new IllegalArgumentException("a place is 0 to 65535");
        }
    }

    private static void requireKind(int which) {
        if (which < 0 || which >= KINDS) {
            throw new IndexOutOfBoundsException("a kind of prediction is 0 to 3");
        }
    }

    private void requireInFlight(int index) {
        if (index < 0 || index >= flying) {
            throw new IndexOutOfBoundsException("there is no such branch in flight");
        }
    }

    private void startAnew(int p, int g, int h) {
        plainBits = p;
        globalBits = g;
        historyBits = h;
        plainTable.startAnew(p);
        globalTable.startAnew(g);
        choiceTable.startAnew(p);
        plainAudit.startAnew();
        globalAudit.startAnew();
        for (int i = 0; i < LOOPS; i++) {
            loops[i].place = NO_PLACE;
        }
        for (int i = 0; i < KINDS; i++) {
            missed[i] = 0;
        }
        outcomes = 0;
        oldest = 0;
        flying = 0;
        committed = 0;
        dropped = 0;
    }

    private CounterTable tableWith(int number) {
        if (number == PLAIN) {
            return plainTable;
        }
        return number == GLOBAL ? globalTable : choiceTable;
    }

    private Branch branchAt(int index) {
        return ring[(oldest + index) & (MOST_IN_FLIGHT - 1)];
    }

    private int appended(int before, boolean isTaken) {
        int longer = 2 * before + (isTaken ? 1 : 0);
        return longer & ((1 << historyBits) - 1);
    }

    private boolean launch(int place) {
        Branch branch = branchAt(flying);
        branch.place = place;
        branch.state = UNRESOLVED;
        branch.historyAhead = outcomes;
        branch.plainIndex = plainTable.indexFor(place);
        branch.globalIndex = globalTable.indexFor(place ^ outcomes);
        branch.isPlainTaken = plainTable.saysTaken(branch.plainIndex);
        branch.isGlobalTaken = globalTable.saysTaken(branch.globalIndex);
        // The plain and the choice table have one size, so one index serves both.
        branch.isChoiceTaken = choiceTable.saysTaken(branch.plainIndex)
                ? branch.isGlobalTaken : branch.isPlainTaken;
        // The presumed count looks at the branches ahead of this one alone, so it comes
        // before this one counts as in flight.
        branch.isPredictedTaken = loopPrediction(place, branch.isChoiceTaken);
        flying++;
        outcomes = appended(outcomes, branch.isPredictedTaken);
        return branch.isPredictedTaken;
    }

    private boolean loopPrediction(int place, boolean isChoiceTaken) {
        int number = loopWith(place);
        if (number < 0 || loops[number].trust < MOST_TRUST) {
            return isChoiceTaken;
        }
        return presumedCount(loops[number]) < loops[number].trip;
    }

    private int presumedCount(Loop entry) {
        int presumed = entry.count;
        for (int i = 0; i < flying; i++) {
            Branch branch = branchAt(i);
            if (branch.place == entry.place) {
                presumed = branch.isPresumedTaken() ? presumed + 1 : 0;
            }
        }
        return presumed;
    }

    private int settle(int index, boolean isTaken) {
        Branch branch = branchAt(index);
        if (branch.isPredictedTaken == isTaken) {
            branch.state = RIGHT;
            return -1;
        }
        branch.state = WRONG;
        outcomes = appended(branch.historyAhead, isTaken);
        return dropFrom(index + 1);
    }

    private int dropFrom(int first) {
        int many = flying - first;
        dropped += many;
        flying = first;
        return many;
    }

    private boolean retire() {
        Branch branch = branchAt(0);
        boolean isTaken = branch.isPresumedTaken();
        countMisses(branch, isTaken);
        learnChoice(branch, isTaken);
        learnOutcome(plainTable, plainAudit, branch.plainIndex, branch.place, isTaken);
        learnOutcome(globalTable, globalAudit, branch.globalIndex, branch.place, isTaken);
        learnLoop(branch, isTaken);
        committed++;
        oldest = (oldest + 1) & (MOST_IN_FLIGHT - 1);
        flying--;
        return branch.state == WRONG;
    }

    private void countMisses(Branch branch, boolean isTaken) {
        for (int i = 0; i < KINDS; i++) {
            if (branch.saidTaken(i) != isTaken) {
                missed[i]++;
            }
        }
    }

    private void learnChoice(Branch branch, boolean isTaken) {
        if (branch.isPlainTaken != branch.isGlobalTaken) {
            choiceTable.move(branch.plainIndex, branch.isGlobalTaken == isTaken);
        }
    }

    private static void learnOutcome(
            CounterTable table, Audit audit, int index, int place, boolean isTaken) {
        audit.note(index, place, table.saysTaken(index) != isTaken);
        table.move(index, isTaken);
    }

    private void learnLoop(Branch branch, boolean isTaken) {
        int number = loopWith(branch.place);
        if (number >= 0) {
            loops[number].learn(isTaken);
        } else if (!isTaken && branch.state == WRONG) {
            loops[numberForNewLoop()].startAnew(branch.place);
        }
    }

    /** The number of the entry with this place, or -1. */
    private int loopWith(int place) {
        for (int i = 0; i < LOOPS; i++) {
            if (loops[i].place == place) {
                return i;
            }
        }
        return -1;
    }

    private int numberForNewLoop() {
        int number = 0;
        for (int i = 0; i < LOOPS; i++) {
            if (loops[i].isFree()) {
                return i;
            }
            if (loops[i].trust < loops[number].trust) {
                number = i;
            }
        }
        return number;
    }

    /** Two-bit counters, of which only the first 2^bits are in use. */
    private static final class CounterTable {
        private static final int FIRST_VALUE = 1;
        private static final int LEAST_TAKEN = 2;
        private static final int MOST_VALUE = 3;

        final int[] values = new int[MOST_COUNTERS];
        int size = 1;

        void startAnew(int bits) {
            size = 1 << bits;
            for (int i = 0; i < MOST_COUNTERS; i++) {
                values[i] = FIRST_VALUE;
            }
        }

        int indexFor(int number) {
            return number & (size - 1);
        }

        int valueAt(int index) {
            return values[index & (MOST_COUNTERS - 1)];
        }

        boolean saysTaken(int index) {
            return valueAt(index) >= LEAST_TAKEN;
        }

        void move(int index, boolean isUp) {
            int value = valueAt(index);
            int moved = isUp ? Math.min(value + 1, MOST_VALUE) : Math.max(value - 1, 0);
            values[index & (MOST_COUNTERS - 1)] = moved;
        }

        long mixInto(long d) {
            long mixed = d;
            for (int i = 0; i < size && i < MOST_COUNTERS; i++) {
                mixed = mix(mixed, values[i]);
            }
            return mixed;
        }
    }

    /** Remembers whose outcome each counter learned last, and counts where branches met. */
    private static final class Audit {
        final int[] latestPlaces = new int[MOST_COUNTERS];
        long allMeetings;
        long harmfulMeetings;

        void startAnew() {
            for (int i = 0; i < MOST_COUNTERS; i++) {
                latestPlaces[i] = NO_PLACE;
            }
            allMeetings = 0;
            harmfulMeetings = 0;
        }

        void note(int index, int place, boolean isHarm) {
            int at = index & (MOST_COUNTERS - 1);
            int latest = latestPlaces[at];
            if (latest != NO_PLACE && latest != place) {
                allMeetings++;
                if (isHarm) {
                    harmfulMeetings++;
                }
            }
            latestPlaces[at] = place;
        }
    }

    /** A branch in flight, with all that its committing needs of the time it was predicted. */
    private static final class Branch {
        int place;
        int state;
        int historyAhead;
        int plainIndex;
        int globalIndex;
        boolean isPlainTaken;
        boolean isGlobalTaken;
        boolean isChoiceTaken;
        boolean isPredictedTaken;

        boolean saidTaken(int which) {
            switch (which) {
                case PLAIN:
                    return isPlainTaken;
                case GLOBAL:
                    return isGlobalTaken;
                case CHOICE:
                    return isChoiceTaken;
                default:
                    return isPredictedTaken;
            }
        }

        /** As it was resolved, or, if it was not yet, as it was predicted. */
        boolean isPresumedTaken() {
            return (state == WRONG) != isPredictedTaken;
        }
    }

    /** A loop entry, or a free number while it has no place. */
    private static final class Loop {
        int place = NO_PLACE;
        int count;
        int trip;
        int trust;

        boolean isFree() {
            return place == NO_PLACE;
        }

        void startAnew(int newPlace) {
            place = newPlace;
            count = 0;
            trip = 0;
            trust = 0;
        }

        void learn(boolean isTaken) {
            if (isTaken) {
                count++;
                if (count > MOST_COUNT) {
                    place = NO_PLACE;
                }
                return;
            }
            if (trip != 0 && trip == count) {
                trust = Math.min(trust + 1, MOST_TRUST);
            } else {
                trip = count;
                trust = 0;
            }
            count = 0;
        }

        long mixInto(long d) {
            boolean isGone = isFree();
            long mixed = mix(d, isGone ? -1 : place);
            mixed = mix(mixed, isGone ? -1 : count);
            mixed = mix(mixed, isGone ? -1 : trip);
            return mix(mixed, isGone ? -1 : trust);
        }
    }
}

/**
 * What reading and writing of storage costs in a run with messages within messages
 * that can be taken back. The numbered promises stand in the project's document.
 */
public final class StorageCosts {
    private static final int OWNERS = 4;
    private static final int PLACES = 64;
    private static final int CELLS = OWNERS * PLACES;
    private static final int MOST_OPEN = 30;

    private static final int TOUCHED_COST = 100;
    private static final int UNTOUCHED_COST = 2100;
    private static final int FILL_COST = 20000;
    private static final int CHANGE_COST = 2900;
    private static final int REWRITE_COST = 100;
    private static final int GAS_NEVER_ENOUGH = 2300;

    private static final int CLEAR_REFUND = 15000;
    private static final int EMPTY_AGAIN_REFUND = 19900;
    private static final int FIRST_AGAIN_REFUND = 2800;

    /** What each place held when the run began; no message takes it back. */
    private final long[] firsts = new long[CELLS];

    /**
     * One state for each depth: a message works on its own copy, so the state below
     * is still what it was when the message was opened. All are made here, once, so
     * that no call makes more.
     */
    private final State[] states = new State[MOST_OPEN + 1];

    private int depth = 0;

    public StorageCosts() {
        for (int i = 0; i < states.length; i++) {
            states[i] = new State();
        }
    }

    public int begin() {
        State outermost = states[0];
        if (depth > 0) {
            outermost.copyFrom(states[depth]);
        }
        depth = 0;
        outermost.forgetCosts();
        System.arraycopy(outermost.values, 0, firsts, 0, CELLS);
        return outermost.filledPlaces();
    }

    public int open() throws IndexOutOfBoundsException {
        if (depth >= MOST_OPEN) {
            throw new IndexOutOfBoundsException("too many messages are open");
        }
        states[depth + 1].copyFrom(states[depth]);
        depth++;
        return depth;
    }

    public int close(boolean good) throws IllegalStateException {
        if (depth <= 0) {
            throw new IllegalStateException("no message is open");
        }
        if (good) {
            states[depth - 1].copyFrom(states[depth]);
        }
        depth--;
        return depth;
    }

    public int load(int o, int p) throws IllegalArgumentException {
        checkPlace(o, p);
        State now = states[depth];
        int cost = now.isMarked(o, p) ? TOUCHED_COST : UNTOUCHED_COST;
        now.mark(o, p);
        return cost;
    }

    public int store(int o, int p, long v, int gas)
            throws IllegalArgumentException, IllegalStateException {
        checkPlace(o, p);
        State now = states[depth];
        int cell = cellOf(o, p);
        long first = firsts[cell];
        long current = now.values[cell];
        int cost = writeCost(first, current, v);
        if (!now.isMarked(o, p)) {
            cost += UNTOUCHED_COST;
        }
        if (gas <= GAS_NEVER_ENOUGH || cost > gas) {
            throw new IllegalStateException("not enough gas");
        }
        now.mark(o, p);
        now.refund += refundChange(first, current, v);
        now.values[cell] = v;
        return cost;
    }

    public long held(int o, int p, boolean first) throws IllegalArgumentException {
        checkPlace(o, p);
        int cell = cellOf(o, p);
        return first ? firsts[cell] : states[depth].values[cell];
    }

    public boolean touched(int o, int p) throws IllegalArgumentException {
        checkPlace(o, p);
        return states[depth].isMarked(o, p);
    }

    public int count(int what) throws IllegalArgumentException {
        State now = states[depth];
        switch (what) {
            case 0:
                return now.refund;
            case 1:
                return now.markedPlaces();
            case 2:
                return depth;
            case 3:
                return now.filledPlaces();
            default:
                throw new IllegalArgumentException("what is not 0 to 3");
        }
    }

    private static void checkPlace(int o, int p) {
        if (o < 0 || o >= OWNERS || p < 0 || p >= PLACES) {
            throw new IllegalArgumentException("no such owner or place");
        }
    }

    private static int cellOf(int o, int p) {
        return o * PLACES + p;
    }

    /** What a write costs besides what the first touch of the place costs. */
    private static int writeCost(long first, long current, long next) {
        if (next == current || first != current) {
            return REWRITE_COST;
        }
        return first == 0 ? FILL_COST : CHANGE_COST;
    }

    private static int refundChange(long first, long current, long next) {
        if (next == current) {
            return 0;
        }
        if (first == current) {
            return next == 0 ? CLEAR_REFUND : 0;
        }
        return clearingChange(first, current, next) + restoringChange(first, next);
    }

    /** A place that was empty at first earns nothing by being emptied again here. */
    private static int clearingChange(long first, long current, long next) {
        if (first == 0) {
            return 0;
        }
        if (current == 0) {
            return -CLEAR_REFUND;
        }
        return next == 0 ? CLEAR_REFUND : 0;
    }

    private static int restoringChange(long first, long next) {
        if (first != next) {
            return 0;
        }
        return first == 0 ? EMPTY_AGAIN_REFUND : FIRST_AGAIN_REFUND;
    }

    /** All that a message takes back if it is not good. */
    private static final class State {
        private final long[] values = new long[CELLS];

        /** A row of bits for each owner: a long has just as many as there are places. */
        private final long[] marks = new long[OWNERS];

        private int refund = 0;

        private void copyFrom(State other) {
            System.arraycopy(other.values, 0, values, 0, CELLS);
            System.arraycopy(other.marks, 0, marks, 0, OWNERS);
            refund = other.refund;
        }

        private void forgetCosts() {
            for (int i = 0; i < OWNERS; i++) {
                marks[i] = 0L;
            }
            refund = 0;
        }

        private boolean isMarked(int o, int p) {
            return ((marks[o] >>> p) & 1L) != 0L;
        }

        private void mark(int o, int p) {
            marks[o] |= 1L << p;
        }

        private int markedPlaces() {
            int n = 0;
            for (int i = 0; i < OWNERS; i++) {
                n += Long.bitCount(marks[i]);
            }
            return n;
        }

        private int filledPlaces() {
            int n = 0;
            for (int i = 0; i < CELLS; i++) {
                if (values[i] != 0L) {
                    n++;
                }
            }
            return n;
        }
    }
}

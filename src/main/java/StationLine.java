import java.util.Arrays;

/** A bench for lines of stations; ../shared/DOC.md says what each call answers and changes. */
public final class StationLine {
    private static final int BAD = -2;
    private static final int RING = -3;
    private static final int NONE = -4;
    private static final int NOTHING = -10;
    private static final int PLACE = -11;
    private static final int SORT = -12;
    private static final int SIZE = -13;

    private static final int TASKS = 10;
    private static final int SETS = 1 << TASKS;
    private static final int MAKES = 3;
    private static final int STATIONS = 10;
    private static final int MOST_TIME = 100;
    private static final int MOST_SHARE = 9;
    private static final int MOST_BEAT = 1000;
    private static final int FIRST_BEAT = 10;

    private static final int BENT = 1;
    private static final int MEAN = 2;
    private static final int EACH = 3;

    private static final int NEITHER = 0;
    private static final int TOGETHER = 1;
    private static final int APART = 2;

    private static final int RULES = 4;
    /** Each move lessens the squares, so that they end long before. */
    private static final int MOST_MOVES = 1000000;
    private static final int SHEETS = 4;
    private static final int SORTS = 3;
    private static final int SHEET_PLACES = 40;
    private static final int MOST_WAITING = 20;

    private final Bench bench = new Bench();
    private final Putting hand = new Putting(bench);
    private final Bench keptBench = new Bench();
    private final Putting keptHand = new Putting(keptBench);
    private boolean isKept = false;
    private final Ring ring = new Ring();
    private final Search search = new Search(bench);
    private final Putting trial = new Putting(bench);
    private final Sheets sheets = new Sheets();
    private final int[] waiting = new int[MOST_WAITING];
    private int waitingCount = 0;
    private int hostFindings = 0;

    public StationLine() {
    }

    // ---- tasks

    public int task() {
        if (bench.size >= TASKS) {
            return BAD;
        }
        int t = bench.add();
        hand.row[t] = 0;
        return t;
    }

    public int time(int t, int make, int v) {
        if (!bench.has(t) || !isMake(make) || v < 1 || v > MOST_TIME) {
            return BAD;
        }
        int was = bench.times[make][t];
        bench.times[make][t] = v;
        return was;
    }

    public int share(int make, int v) {
        if (!isMake(make) || v < 0 || v > MOST_SHARE) {
            return BAD;
        }
        int was = bench.shares[make];
        if (bench.shareSum() - was + v == 0) {
            return BAD;
        }
        bench.shares[make] = v;
        return was;
    }

    public int ahead(int a, int b) {
        if (!bench.has(a) || !bench.has(b)) {
            return BAD;
        }
        if (a == b || (bench.leading[a] & 1 << b) != 0) {
            ring.trace(bench, a, b);
            return RING;
        }
        return bench.link(a, b) ? 1 : 0;
    }

    public int free(int a, int b) {
        if (!bench.has(a) || !bench.has(b)) {
            return BAD;
        }
        return bench.unlink(a, b) ? 1 : 0;
    }

    public int ring(int k) {
        return k >= 0 && k < ring.size ? ring.row[k] : NONE;
    }

    public int pair(int a, int b, int how) {
        if (!bench.has(a) || !bench.has(b) || a == b || how < NEITHER || how > APART) {
            return BAD;
        }
        int was = bench.pairing(a, b);
        bench.pairUp(a, b, how);
        return was;
    }

    public int hold(int t, int station) {
        if (!bench.has(t) || !isStationOrNone(station)) {
            return BAD;
        }
        int was = bench.held[t];
        bench.held[t] = station;
        return was;
    }

    public int line(int kind) {
        if (kind < 0 || kind > EACH) {
            return BAD;
        }
        int was = bench.kind;
        bench.kind = kind;
        return was;
    }

    public int beat(int v) {
        if (v < 1 || v > MOST_BEAT) {
            return BAD;
        }
        int was = bench.beat;
        bench.beat = v;
        return was;
    }

    public int of(int t, int what) {
        if (!bench.has(t)) {
            return BAD;
        }
        switch (what) {
            case 0:
            case 1:
            case 2:
                return bench.times[what][t];
            case 3:
                return bench.before[t];
            case 4:
                return bench.leading[t];
            case 5:
                return bench.following[t];
            case 6:
                return bench.held[t];
            case 7:
                return hand.row[t];
            case 8:
                return bench.loadOf(1 << t);
            default:
                return BAD;
        }
    }

    // ---- the hand

    public int put(int t, int station) {
        if (!bench.has(t) || !isStationOrNone(station)) {
            return BAD;
        }
        int was = hand.row[t];
        hand.row[t] = station;
        return was;
    }

    public int cause(int t) {
        return bench.has(t) ? hand.causeOf(t) : BAD;
    }

    public int clash() {
        return hand.firstClash();
    }

    public int station(int k, int what) {
        if (k < 1 || k > STATIONS || what < 0 || what > 2) {
            return BAD;
        }
        int set = hand.setAt(k);
        if (what == 0) {
            return set;
        }
        int load = bench.loadOf(set);
        return what == 1 ? load : bench.room() - load;
    }

    public int length() {
        return hand.greatest();
    }

    public long squares() {
        return hand.squareSum();
    }

    // ---- the least of all

    public int fewest() {
        return search.leastLength();
    }

    public long many() {
        int least = search.leastLength();
        return least < 0 ? 0 : search.waysFor(least);
    }

    public int best(boolean even) {
        int least = search.leastLength();
        if (least < 0) {
            return NONE;
        }
        search.putFirst(least, even, hand.row);
        return least;
    }

    public long evenest() {
        int least = search.leastLength();
        return least < 0 ? -1 : search.costFor(least);
    }

    public int leastBeat(int m) {
        return isStation(m) ? search.leastBeatFor(m) : BAD;
    }

    public int bound(int which) {
        switch (which) {
            case 0:
                return stationsFor(bench.all());
            case 1:
                return bench.halfRoomBound();
            default:
                return BAD;
        }
    }

    public int early(int t) {
        return bench.has(t) ? stationsFor(1 << t | bench.leading[t]) : BAD;
    }

    public int late(int t, int m) {
        if (!bench.has(t) || !isStation(m)) {
            return BAD;
        }
        return m + 1 - stationsFor(1 << t | bench.following[t]);
    }

    // ---- rules, bettering

    public int rule(int which) {
        if (which < 0 || which >= RULES) {
            return BAD;
        }
        if (!trial.putByRule(which)) {
            return NONE;
        }
        hand.copyRow(trial);
        return hand.greatest();
    }

    public int better() {
        if (hand.firstClash() >= 0) {
            return NONE;
        }
        int moves = 0;
        while (moves < MOST_MOVES && hand.moveOnce()) {
            moves++;
        }
        return moves;
    }

    // ---- sheets

    public int sheet(int s, int sort, int n) {
        if (!isSheet(s) || !isSort(sort) || n > SHEET_PLACES) {
            return BAD;
        }
        if (n < 0) {
            return found(SIZE);
        }
        sheets.lay(s, sort, n);
        return n;
    }

    public int write(int s, int i, int v) {
        if (!isSheet(s)) {
            return BAD;
        }
        if (sheets.isMissing(s)) {
            return found(NOTHING);
        }
        if (i < 0 || i >= sheets.sizes[s]) {
            return found(PLACE);
        }
        int was = sheets.rows[s][i];
        sheets.rows[s][i] = Sheets.narrowed(sheets.sorts[s], v);
        return was;
    }

    public int take(int make, int s, int sort, int i) {
        if (!isMake(make) || !isSheet(s) || !isSort(sort)) {
            return BAD;
        }
        if (sheets.isMissing(s)) {
            return found(NOTHING);
        }
        if (sheets.sorts[s] != sort) {
            return found(SORT);
        }
        if (bench.size > 0 && (i < 0 || i > sheets.sizes[s] - bench.size)) {
            return found(PLACE);
        }
        return bench.takeTimes(make, sheets.rows[s], i);
    }

    public int lose(int s) {
        if (!isSheet(s)) {
            return BAD;
        }
        int was = sheets.isMissing(s) ? 0 : 1;
        sheets.drop(s);
        return was;
    }

    // ---- told puttings

    public int tell(int v) {
        if (waitingCount >= MOST_WAITING) {
            return BAD;
        }
        waiting[waitingCount] = v;
        waitingCount++;
        return waitingCount;
    }

    public int check() {
        int told = waitingCount;
        waitingCount = 0;
        if (told != bench.size) {
            return BAD;
        }
        for (int t = 0; t < told; t++) {
            if (!isStationOrNone(waiting[t])) {
                return BAD;
            }
        }
        System.arraycopy(waiting, 0, trial.row, 0, told);
        int t = trial.firstClash();
        return t < 0 ? 0 : 10 * t + trial.causeOf(t);
    }

    public int keep() {
        keptBench.become(bench);
        keptHand.copyRow(hand);
        isKept = true;
        return bench.size;
    }

    public int back() {
        if (!isKept) {
            return found(NOTHING);
        }
        bench.become(keptBench);
        hand.copyRow(keptHand);
        return bench.size;
    }

    public int count(int what) {
        switch (what) {
            case 0:
                return bench.size;
            case 1:
                return waitingCount;
            case 2:
                return hostFindings;
            case 3:
                return bench.kind;
            case 4:
                return bench.beat;
            case 5:
                return bench.room();
            default:
                return BAD;
        }
    }

    private int found(int finding) {
        hostFindings++;
        return finding;
    }

    private int stationsFor(int set) {
        return takenUp(bench.loadOf(set), bench.room());
    }

    private static boolean isMake(int make) {
        return make >= 0 && make < MAKES;
    }

    private static boolean isStation(int k) {
        return k >= 1 && k <= STATIONS;
    }

    private static boolean isStationOrNone(int k) {
        return k >= 0 && k <= STATIONS;
    }

    private static boolean isSheet(int s) {
        return s >= 0 && s < SHEETS;
    }

    private static boolean isSort(int sort) {
        return sort >= 0 && sort < SORTS;
    }

    /** A division with its fraction taken up; no room is ever below 1, but the divisor is looked at. */
    private static int takenUp(int amount, int by) {
        return by < 1 ? 0 : (amount + by - 1) / by;
    }

    /** The tasks, the line, the beat and the shares: all by which puttings are judged. */
    static final class Bench {
        int size = 0;
        int kind = 0;
        int beat = FIRST_BEAT;
        final int[] shares = new int[MAKES];
        final int[][] times = new int[MAKES][TASKS];
        final int[] before = new int[TASKS];
        final int[] leading = new int[TASKS];
        final int[] following = new int[TASKS];
        final int[] together = new int[TASKS];
        final int[] apart = new int[TASKS];
        final int[] held = new int[TASKS];

        Bench() {
            shares[0] = 1;
        }

        boolean has(int t) {
            return t >= 0 && t < size;
        }

        int all() {
            return (1 << size) - 1;
        }

        /** Whoever asks has seen that there are fewer than TASKS. */
        int add() {
            int t = size;
            for (int make = 0; make < MAKES; make++) {
                times[make][t] = 1;
            }
            before[t] = 0;
            leading[t] = 0;
            following[t] = 0;
            together[t] = 0;
            apart[t] = 0;
            held[t] = 0;
            size++;
            return t;
        }

        boolean link(int a, int b) {
            if ((before[b] & 1 << a) != 0) {
                return false;
            }
            before[b] |= 1 << a;
            closeOver();
            return true;
        }

        boolean unlink(int a, int b) {
            if ((before[b] & 1 << a) == 0) {
                return false;
            }
            before[b] &= ~(1 << a);
            closeOver();
            return true;
        }

        /** Warshall's order, the middle task outermost, closes all chains in one sweep. */
        private void closeOver() {
            System.arraycopy(before, 0, leading, 0, size);
            for (int mid = 0; mid < size; mid++) {
                for (int t = 0; t < size; t++) {
                    if ((leading[t] & 1 << mid) != 0) {
                        leading[t] |= leading[mid];
                    }
                }
            }
            for (int t = 0; t < size; t++) {
                following[t] = holdersOf(leading, t);
            }
        }

        private int holdersOf(int[] sets, int t) {
            int holders = 0;
            for (int other = 0; other < size; other++) {
                if ((sets[other] & 1 << t) != 0) {
                    holders |= 1 << other;
                }
            }
            return holders;
        }

        int pairing(int a, int b) {
            if ((together[a] & 1 << b) != 0) {
                return TOGETHER;
            }
            return (apart[a] & 1 << b) != 0 ? APART : NEITHER;
        }

        void pairUp(int a, int b, int how) {
            mark(together, a, b, how == TOGETHER);
            mark(apart, a, b, how == APART);
        }

        private static void mark(int[] sets, int a, int b, boolean on) {
            sets[a] = on ? sets[a] | 1 << b : sets[a] & ~(1 << b);
            sets[b] = on ? sets[b] | 1 << a : sets[b] & ~(1 << a);
        }

        int shareSum() {
            return shares[0] + shares[1] + shares[2];
        }

        /** How much of the room one unit of the beat is. */
        int roomOfOneBeat() {
            return kind == MEAN ? shareSum() : 1;
        }

        int room() {
            return kind == MEAN ? beat * shareSum() : beat;
        }

        /** What a time for the make counts in a load; 0 for a make that has no say. */
        int weight(int make) {
            if (kind == MEAN) {
                return shares[make];
            }
            if (kind == EACH) {
                return shares[make] > 0 ? 1 : 0;
            }
            return make == 0 ? 1 : 0;
        }

        /** Joins what two makes load: an EACH line goes by the greatest, the others by the sum. */
        int joined(int load, int more) {
            return kind == EACH ? Math.max(load, more) : load + more;
        }

        int loadOf(int set) {
            int load = 0;
            for (int make = 0; make < MAKES; make++) {
                int weight = weight(make);
                if (weight > 0) {
                    load = joined(load, weight * timeSum(set, make));
                }
            }
            return load;
        }

        private int timeSum(int set, int make) {
            int sum = 0;
            for (int t = 0; t < size; t++) {
                if ((set & 1 << t) != 0) {
                    sum += times[make][t];
                }
            }
            return sum;
        }

        /** Whether the task may have its station when the tasks of the set are there or earlier. */
        boolean isOpen(int t, int set) {
            if ((leading[t] & ~set) == 0) {
                return true;
            }
            return kind == BENT && (following[t] & ~set) == 0;
        }

        int halfRoomBound() {
            int room = room();
            int over = 0;
            int exact = 0;
            for (int t = 0; t < size; t++) {
                int twice = 2 * loadOf(1 << t);
                if (twice > room) {
                    over++;
                } else if (twice == room) {
                    exact++;
                }
            }
            return over + takenUp(exact, 2);
        }

        /** Whoever asks has seen that the row has a number for each task from place i on. */
        int takeTimes(int make, int[] row, int i) {
            int clamped = 0;
            for (int t = 0; t < size; t++) {
                int told = row[i + t];
                int v = Math.max(1, Math.min(MOST_TIME, told));
                if (v != told) {
                    clamped++;
                }
                times[make][t] = v;
            }
            return clamped;
        }

        /** The shares stay: the document names tasks, line, beat and hand as kept, and no shares. */
        void become(Bench other) {
            size = other.size;
            kind = other.kind;
            beat = other.beat;
            for (int make = 0; make < MAKES; make++) {
                System.arraycopy(other.times[make], 0, times[make], 0, TASKS);
            }
            System.arraycopy(other.before, 0, before, 0, TASKS);
            System.arraycopy(other.leading, 0, leading, 0, TASKS);
            System.arraycopy(other.following, 0, following, 0, TASKS);
            System.arraycopy(other.together, 0, together, 0, TASKS);
            System.arraycopy(other.apart, 0, apart, 0, TASKS);
            System.arraycopy(other.held, 0, held, 0, TASKS);
        }
    }

    /** The latest ring that was refused. */
    static final class Ring {
        final int[] row = new int[TASKS];
        int size = 0;
        private final int[] layers = new int[TASKS + 1];

        /** Finds the ring that a AHEAD of b would close: a, then the first shortest way from b to a. */
        void trace(Bench bench, int a, int b) {
            row[0] = a;
            size = 1;
            if (a == b) {
                return;
            }
            int far = layersUpTo(bench, a, b);
            int at = b;
            for (int d = far - 1; d >= 0 && size < TASKS; d--) {
                row[size] = at;
                size++;
                at = leastStep(bench, at, layers[d]);
            }
        }

        /** Layer d has the tasks from which a is d steps away; answers the layer that has b. */
        private int layersUpTo(Bench bench, int a, int b) {
            int seen = 1 << a;
            layers[0] = seen;
            int d = 0;
            while (d < TASKS && (layers[d] & 1 << b) == 0) {
                int next = 0;
                for (int t = 0; t < bench.size; t++) {
                    if ((layers[d] & 1 << t) != 0) {
                        next |= bench.before[t];
                    }
                }
                d++;
                layers[d] = next & ~seen;
                seen |= next;
            }
            return d;
        }

        private static int leastStep(Bench bench, int from, int layer) {
            for (int t = 0; t < bench.size; t++) {
                if ((layer & 1 << t) != 0 && (bench.before[t] & 1 << from) != 0) {
                    return t;
                }
            }
            return from;
        }
    }

    /** Stations of the tasks of a bench, 0 for none. */
    static final class Putting {
        private final Bench bench;
        final int[] row = new int[TASKS];

        Putting(Bench bench) {
            this.bench = bench;
        }

        void copyRow(Putting other) {
            System.arraycopy(other.row, 0, row, 0, TASKS);
        }

        int setAt(int k) {
            int set = 0;
            for (int t = 0; t < bench.size; t++) {
                if (row[t] == k) {
                    set |= 1 << t;
                }
            }
            return set;
        }

        private int setUpTo(int k) {
            int set = 0;
            for (int t = 0; t < bench.size; t++) {
                if (row[t] > 0 && row[t] <= k) {
                    set |= 1 << t;
                }
            }
            return set;
        }

        int greatest() {
            int most = 0;
            for (int t = 0; t < bench.size; t++) {
                most = Math.max(most, row[t]);
            }
            return most;
        }

        private long squareAt(int k) {
            long load = bench.loadOf(setAt(k));
            return load * load;
        }

        long squareSum() {
            long sum = 0;
            for (int k = 1; k <= STATIONS; k++) {
                sum += squareAt(k);
            }
            return sum;
        }

        int causeOf(int t) {
            int k = row[t];
            if (k == 0) {
                return 1;
            }
            int here = setAt(k);
            if (bench.loadOf(here) > bench.room()) {
                return 2;
            }
            if ((bench.together[t] & ~here) != 0) {
                return 3;
            }
            if ((bench.apart[t] & here) != 0) {
                return 4;
            }
            if (bench.held[t] != 0 && bench.held[t] != k) {
                return 5;
            }
            return bench.isOpen(t, setUpTo(k)) ? 0 : 6;
        }

        int firstClash() {
            for (int t = 0; t < bench.size; t++) {
                if (causeOf(t) != 0) {
                    return t;
                }
            }
            return -1;
        }

        /** Makes the first move that betters the putting, if there is one. */
        boolean moveOnce() {
            int length = greatest();
            for (int t = 0; t < bench.size; t++) {
                for (int k = 1; k <= length; k++) {
                    if (k != row[t] && moveIfBetter(t, k)) {
                        return true;
                    }
                }
            }
            return false;
        }

        private boolean moveIfBetter(int t, int k) {
            int old = row[t];
            long now = squareAt(old) + squareAt(k);
            row[t] = k;
            long then = squareAt(old) + squareAt(k);
            if (then < now && firstClash() < 0) {
                return true;
            }
            row[t] = old;
            return false;
        }

        /** Puts all tasks anew by a rule of thumb; false when the rule ends without. */
        boolean putByRule(int which) {
            if (someTaskIsTooMuch()) {
                return false;
            }
            Arrays.fill(row, 0);
            int put = 0;
            int here = 0;
            int k = 1;
            // Each step puts a task or begins a station.
            for (int step = 0; step < TASKS + STATIONS && put != bench.all(); step++) {
                int t = firstByRule(which, put, here);
                if (t >= 0) {
                    row[t] = k;
                    put |= 1 << t;
                    here |= 1 << t;
                } else if (k < STATIONS) {
                    k++;
                    here = 0;
                } else {
                    return false;
                }
            }
            return put == bench.all();
        }

        private boolean someTaskIsTooMuch() {
            for (int t = 0; t < bench.size; t++) {
                if (bench.loadOf(1 << t) > bench.room()) {
                    return true;
                }
            }
            return false;
        }

        private int firstByRule(int which, int put, int here) {
            int first = -1;
            int most = 0;
            for (int t = 0; t < bench.size; t++) {
                int bit = 1 << t;
                if ((put & bit) != 0 || !bench.isOpen(t, put) || bench.loadOf(here | bit) > bench.room()) {
                    continue;
                }
                int worth = worthByRule(which, t);
                if (first < 0 || worth > most) {
                    first = t;
                    most = worth;
                }
            }
            return first;
        }

        private int worthByRule(int which, int t) {
            switch (which) {
                case 0:
                    return bench.loadOf(1 << t);
                case 1:
                    return bench.loadOf(1 << t | bench.following[t]);
                case 2:
                    return Integer.bitCount(bench.following[t]);
                default:
                    return -t;
            }
        }
    }

    /**
     * Looks through all right puttings at once. Its states are the sets of tasks that stand at the
     * stations up to some k; a putting is right just when each such set is FINE (each task of it
     * is open there) and each station's own set is one that a station may have.
     */
    static final class Search {
        private static final int NEVER = -1;
        private static final int TOO_FAR = STATIONS + 1;
        private static final long ABOVE_ALL_COSTS = 1L << 40;

        private final Bench bench;
        private int all = 0;
        private final int[] loads = new int[SETS];
        private final boolean[] fine = new boolean[SETS];
        /** The one station that a set may have for what is paired and held; 0 any, or NEVER. */
        private final int[] allowed = new int[SETS];
        /** The same with the loads looked at. */
        private final int[] places = new int[SETS];
        /** The least k after which a state can stand; by empty stations it can at all later ones. */
        private final int[] soonest = new int[SETS];
        /** The greatest k after which a state can stand and all tasks still come in, or NEVER. */
        private final int[] latest = new int[SETS];
        private final int[] scratch = new int[SETS];
        /** By k and state: the least sum of squares that is still to come. */
        private final long[][] costs = new long[STATIONS + 1][SETS];
        /** By k (odd or even) and state: how many ways to go on. */
        private final long[][] ways = new long[2][SETS];

        Search(Bench bench) {
            this.bench = bench;
        }

        int leastLength() {
            prepare();
            int least = lengthWithin(bench.room());
            return least > STATIONS ? NONE : least;
        }

        /** Below the lesser bound m stations can't hold the load; at the greater one holds all. */
        int leastBeatFor(int m) {
            prepare();
            int unit = bench.roomOfOneBeat();
            int low = Math.max(1, takenUp(loads[all], unit * m));
            int high = Math.max(low, takenUp(loads[all], unit));
            if (lengthWithin(high * unit) > m) {
                return NONE;
            }
            for (int step = 0; step < MOST_BEAT && low < high; step++) {
                int middle = (low + high) / 2;
                if (lengthWithin(middle * unit) <= m) {
                    high = middle;
                } else {
                    low = middle + 1;
                }
            }
            return low;
        }

        /** After leastLength(), with its answer. */
        long waysFor(int length) {
            lookBack(length);
            weigh(length);
            return ways[0][0];
        }

        /** After leastLength(), with its answer. */
        long costFor(int length) {
            lookBack(length);
            weigh(length);
            return costs[0][0];
        }

        /** After leastLength(), with its answer: puts THE BEST, or THE EVENEST, into the row. */
        void putFirst(int length, boolean even, int[] row) {
            lookBack(length);
            if (even) {
                weigh(length);
            }
            int done = 0;
            for (int k = 1; k <= length; k++) {
                int set = firstSet(k, done, even);
                for (int t = 0; t < bench.size; t++) {
                    if ((set & 1 << t) != 0) {
                        row[t] = k;
                    }
                }
                done |= set;
            }
        }

        private int firstSet(int k, int done, boolean even) {
            for (int set = 0; set <= all; set++) {
                int next = done | set;
                if ((set & done) != 0 || k > latest[next] || places[set] != 0 && places[set] != k) {
                    continue;
                }
                long load = loads[set];
                if (!even || load * load + costs[k][next] == costs[k - 1][done]) {
                    return set;
                }
            }
            return 0;
        }

        private void prepare() {
            all = bench.all();
            fillLoads();
            fillAllowed();
            for (int set = 0; set <= all; set++) {
                fine[set] = isFine(set);
            }
        }

        private void fillLoads() {
            Arrays.fill(loads, 0);
            for (int make = 0; make < MAKES; make++) {
                int weight = bench.weight(make);
                if (weight > 0) {
                    joinLoads(make, weight);
                }
            }
        }

        private void joinLoads(int make, int weight) {
            scratch[0] = 0;
            for (int t = 0; t < bench.size; t++) {
                int bit = 1 << t;
                int more = weight * bench.times[make][t];
                for (int lower = 0; lower < bit; lower++) {
                    scratch[bit | lower] = scratch[lower] + more;
                }
            }
            for (int set = 1; set <= all; set++) {
                loads[set] = bench.joined(loads[set], scratch[set]);
            }
        }

        /** The partners are looked at last: a set that lacks some can be part of one that doesn't. */
        private void fillAllowed() {
            int[] partners = scratch;
            partners[0] = 0;
            allowed[0] = 0;
            for (int t = 0; t < bench.size; t++) {
                int bit = 1 << t;
                for (int lower = 0; lower < bit; lower++) {
                    partners[bit | lower] = partners[lower] | bench.together[t];
                    boolean clash = (bench.apart[t] & lower) != 0;
                    allowed[bit | lower] = clash ? NEVER : meet(allowed[lower], bench.held[t]);
                }
            }
            for (int set = 1; set <= all; set++) {
                if ((partners[set] & ~set) != 0) {
                    allowed[set] = NEVER;
                }
            }
        }

        private static int meet(int place, int held) {
            if (held == 0 || place == held) {
                return place;
            }
            return place == 0 ? held : NEVER;
        }

        private boolean isFine(int set) {
            for (int t = 0; t < bench.size; t++) {
                if ((set & 1 << t) != 0 && !bench.isOpen(t, set)) {
                    return false;
                }
            }
            return true;
        }

        /** The least length within a room, or TOO_FAR. A state comes after all its parts in number. */
        private int lengthWithin(int room) {
            for (int set = 0; set <= all; set++) {
                places[set] = loads[set] > room ? NEVER : allowed[set];
                soonest[set] = TOO_FAR;
            }
            soonest[0] = 0;
            for (int state = 0; state < all; state++) {
                if (soonest[state] < STATIONS) {
                    spread(state, soonest[state] + 1);
                }
            }
            return soonest[all];
        }

        /** Each set that can come next, at station k or later; they fall in number, so that it ends. */
        private void spread(int state, int k) {
            int rest = all & ~state;
            for (int set = rest; set > 0; set = (set - 1) & rest) {
                int place = places[set];
                if (place == NEVER || !fine[state | set]) {
                    continue;
                }
                int at = place == 0 ? k : place;
                if (at >= k && at < soonest[state | set]) {
                    soonest[state | set] = at;
                }
            }
        }

        private void lookBack(int length) {
            latest[all] = length;
            for (int state = all - 1; state >= 0; state--) {
                int k = soonest[state] > length ? NEVER : latestOf(state);
                latest[state] = k < soonest[state] ? NEVER : k;
            }
        }

        private int latestOf(int state) {
            int best = NEVER;
            int rest = all & ~state;
            for (int set = rest; set > 0; set = (set - 1) & rest) {
                int place = places[set];
                int k = latest[state | set];
                if (place == NEVER || place > k) {
                    continue;
                }
                int at = place == 0 ? k : place;
                if (at - 1 > best) {
                    best = at - 1;
                }
            }
            return best;
        }

        /** From the last station back, by the states alone that lie on some right putting. */
        private void weigh(int length) {
            costs[length][all] = 0;
            ways[length & 1][all] = 1;
            for (int k = length - 1; k >= 0; k--) {
                for (int state = 0; state <= all; state++) {
                    if (soonest[state] <= k && k <= latest[state]) {
                        weighState(k, state);
                    }
                }
            }
        }

        private void weighState(int k, int state) {
            int station = k + 1;
            long[] nextCosts = costs[station];
            long[] nextWays = ways[station & 1];
            long cost = ABOVE_ALL_COSTS;
            long sum = 0;
            if (station <= latest[state]) {
                cost = nextCosts[state];
                sum = nextWays[state];
            }
            int rest = all & ~state;
            for (int set = rest; set > 0; set = (set - 1) & rest) {
                int next = state | set;
                int place = places[set];
                if (station <= latest[next] && (place == 0 || place == station)) {
                    long load = loads[set];
                    cost = Math.min(cost, load * load + nextCosts[next]);
                    sum += nextWays[next];
                }
            }
            costs[k][state] = cost;
            ways[k & 1][state] = sum;
        }
    }

    /** Rows of numbers; each number is held as its sort narrows it. */
    static final class Sheets {
        private static final int MISSING = -1;

        final int[] sorts = new int[SHEETS];
        final int[] sizes = new int[SHEETS];
        final int[][] rows = new int[SHEETS][SHEET_PLACES];

        Sheets() {
            Arrays.fill(sizes, MISSING);
        }

        boolean isMissing(int s) {
            return sizes[s] == MISSING;
        }

        void lay(int s, int sort, int n) {
            sorts[s] = sort;
            sizes[s] = n;
            Arrays.fill(rows[s], 0);
        }

        void drop(int s) {
            sizes[s] = MISSING;
        }

        static int narrowed(int sort, int v) {
            if (sort == 0) {
                return (byte) v;
            }
            return sort == 1 ? (short) v : v;
        }
    }
}

import java.util.ArrayList;
import java.util.Arrays;
import java.util.List;

/**
 * The document written down as directly as can be, without any thought of speed: puttings are
 * tried one by one. The tests hold StationLine's answers against its own.
 */
class PlainLine {
    static final class Task {
        int[] times = {1, 1, 1};
        int held = 0;
        int hand = 0;

        Task copy() {
            Task task = new Task();
            task.times = times.clone();
            task.held = held;
            task.hand = hand;
            return task;
        }
    }

    static final class State {
        List<Task> tasks = new ArrayList<>();
        boolean[][] ahead = new boolean[10][10];
        int[][] pairs = new int[10][10];
        int kind = 0;
        int beat = 10;

        State copy() {
            State state = new State();
            for (Task task : tasks) {
                state.tasks.add(task.copy());
            }
            for (int i = 0; i < 10; i++) {
                state.ahead[i] = ahead[i].clone();
                state.pairs[i] = pairs[i].clone();
            }
            state.kind = kind;
            state.beat = beat;
            return state;
        }
    }

    State now = new State();
    State kept = null;
    int[] shares = {1, 0, 0};
    List<Integer> ring = new ArrayList<>();
    Object[] sheets = new Object[4];
    List<Integer> waiting = new ArrayList<>();
    int findings = 0;

    // What the latest enumeration found.
    int foundLength;
    long foundMany;
    long foundSquares;
    int[] foundBest;
    int[] foundEvenest;
    int foundMost;

    int n() {
        return now.tasks.size();
    }

    boolean has(int t) {
        return t >= 0 && t < n();
    }

    int host(int finding) {
        findings++;
        return finding;
    }

    long task() {
        if (n() == 10) {
            return -2;
        }
        now.tasks.add(new Task());
        return n() - 1;
    }

    long time(int t, int make, int v) {
        if (!has(t) || make < 0 || make > 2 || v < 1 || v > 100) {
            return -2;
        }
        int was = now.tasks.get(t).times[make];
        now.tasks.get(t).times[make] = v;
        return was;
    }

    long share(int make, int v) {
        if (make < 0 || make > 2 || v < 0 || v > 9) {
            return -2;
        }
        int[] then = shares.clone();
        then[make] = v;
        if (Arrays.stream(then).allMatch(s -> s == 0)) {
            return -2;
        }
        int was = shares[make];
        shares = then;
        return was;
    }

    boolean leads(int a, int b) {
        for (int c = 0; c < n(); c++) {
            if (now.ahead[c][b] && (c == a || leads(a, c))) {
                return true;
            }
        }
        return false;
    }

    long ahead(int a, int b) {
        if (!has(a) || !has(b)) {
            return -2;
        }
        if (now.ahead[a][b]) {
            return 0;
        }
        if (a == b || leads(b, a)) {
            List<Integer> least = null;
            for (int size = 1; least == null; size++) {
                least = ringOf(a, b, size);
            }
            ring = least;
            return -3;
        }
        now.ahead[a][b] = true;
        return 1;
    }

    /** The first ring of that size in the order of its tasks, by trying all of them. */
    List<Integer> ringOf(int a, int b, int size) {
        if (size == 1) {
            return a == b ? List.of(a) : null;
        }
        List<Integer> row = new ArrayList<>(List.of(a, b));
        return extendRing(row, a, size) ? row : null;
    }

    boolean extendRing(List<Integer> row, int a, int size) {
        int end = row.get(row.size() - 1);
        if (row.size() == size) {
            return now.ahead[end][a];
        }
        for (int t = 0; t < n(); t++) {
            if (now.ahead[end][t] && !row.contains(t)) {
                row.add(t);
                if (extendRing(row, a, size)) {
                    return true;
                }
                row.remove(row.size() - 1);
            }
        }
        return false;
    }

    long free(int a, int b) {
        if (!has(a) || !has(b)) {
            return -2;
        }
        int was = now.ahead[a][b] ? 1 : 0;
        now.ahead[a][b] = false;
        return was;
    }

    long ring(int k) {
        return k >= 0 && k < ring.size() ? ring.get(k) : -4;
    }

    long pair(int a, int b, int how) {
        if (!has(a) || !has(b) || a == b || how < 0 || how > 2) {
            return -2;
        }
        int was = now.pairs[a][b];
        now.pairs[a][b] = how;
        now.pairs[b][a] = how;
        return was;
    }

    long hold(int t, int station) {
        if (!has(t) || station < 0 || station > 10) {
            return -2;
        }
        int was = now.tasks.get(t).held;
        now.tasks.get(t).held = station;
        return was;
    }

    long line(int kind) {
        if (kind < 0 || kind > 3) {
            return -2;
        }
        int was = now.kind;
        now.kind = kind;
        return was;
    }

    long beat(int v) {
        if (v < 1 || v > 1000) {
            return -2;
        }
        int was = now.beat;
        now.beat = v;
        return was;
    }

    int set(boolean[] in) {
        int set = 0;
        for (int t = 0; t < in.length; t++) {
            set += in[t] ? 1 << t : 0;
        }
        return set;
    }

    boolean[] leading(int t) {
        boolean[] in = new boolean[n()];
        for (int a = 0; a < n(); a++) {
            in[a] = leads(a, t);
        }
        return in;
    }

    boolean[] following(int t) {
        boolean[] in = new boolean[n()];
        for (int b = 0; b < n(); b++) {
            in[b] = leads(t, b);
        }
        return in;
    }

    boolean[] only(int t) {
        boolean[] in = new boolean[n()];
        in[t] = true;
        return in;
    }

    boolean[] with(boolean[] in, int t) {
        boolean[] more = in.clone();
        more[t] = true;
        return more;
    }

    int load(boolean[] in) {
        int[] sums = new int[3];
        for (int t = 0; t < n(); t++) {
            for (int make = 0; make < 3 && in[t]; make++) {
                sums[make] += now.tasks.get(t).times[make];
            }
        }
        if (now.kind < 2) {
            return sums[0];
        }
        int mean = 0;
        int most = 0;
        for (int make = 0; make < 3; make++) {
            mean += shares[make] * sums[make];
            most = shares[make] > 0 ? Math.max(most, sums[make]) : most;
        }
        return now.kind == 2 ? mean : most;
    }

    int unit() {
        return now.kind == 2 ? shares[0] + shares[1] + shares[2] : 1;
    }

    int room() {
        return now.beat * unit();
    }

    long of(int t, int what) {
        if (!has(t) || what < 0 || what > 8) {
            return -2;
        }
        if (what < 3) {
            return now.tasks.get(t).times[what];
        }
        if (what == 3) {
            boolean[] in = new boolean[n()];
            for (int a = 0; a < n(); a++) {
                in[a] = now.ahead[a][t];
            }
            return set(in);
        }
        if (what == 4) {
            return set(leading(t));
        }
        if (what == 5) {
            return set(following(t));
        }
        if (what == 6) {
            return now.tasks.get(t).held;
        }
        return what == 7 ? now.tasks.get(t).hand : load(only(t));
    }

    int[] hand() {
        int[] row = new int[n()];
        for (int t = 0; t < n(); t++) {
            row[t] = now.tasks.get(t).hand;
        }
        return row;
    }

    void setHand(int[] row) {
        for (int t = 0; t < n(); t++) {
            now.tasks.get(t).hand = row[t];
        }
    }

    long put(int t, int station) {
        if (!has(t) || station < 0 || station > 10) {
            return -2;
        }
        int was = now.tasks.get(t).hand;
        now.tasks.get(t).hand = station;
        return was;
    }

    boolean[] at(int[] row, int k) {
        boolean[] in = new boolean[n()];
        for (int t = 0; t < n(); t++) {
            in[t] = row[t] == k;
        }
        return in;
    }

    boolean allUpTo(boolean[] in, int[] row, int k) {
        for (int t = 0; t < n(); t++) {
            if (in[t] && (row[t] == 0 || row[t] > k)) {
                return false;
            }
        }
        return true;
    }

    int causeIn(int[] row, int t) {
        int k = row[t];
        if (k == 0) {
            return 1;
        }
        if (load(at(row, k)) > room()) {
            return 2;
        }
        for (int how = 1; how <= 2; how++) {
            for (int o = 0; o < n(); o++) {
                if (now.pairs[t][o] == how && (row[o] == k) != (how == 1)) {
                    return 2 + how;
                }
            }
        }
        if (now.tasks.get(t).held != 0 && now.tasks.get(t).held != k) {
            return 5;
        }
        boolean ahead = allUpTo(leading(t), row, k);
        boolean behind = allUpTo(following(t), row, k);
        return ahead || now.kind == 1 && behind ? 0 : 6;
    }

    int clashIn(int[] row) {
        for (int t = 0; t < n(); t++) {
            if (causeIn(row, t) != 0) {
                return t;
            }
        }
        return -1;
    }

    long cause(int t) {
        return has(t) ? causeIn(hand(), t) : -2;
    }

    long clash() {
        return clashIn(hand());
    }

    long station(int k, int what) {
        if (k < 1 || k > 10 || what < 0 || what > 2) {
            return -2;
        }
        boolean[] in = at(hand(), k);
        return what == 0 ? set(in) : what == 1 ? load(in) : room() - load(in);
    }

    int lengthIn(int[] row) {
        return Arrays.stream(row).max().orElse(0);
    }

    long length() {
        return lengthIn(hand());
    }

    long squaresIn(int[] row) {
        long sum = 0;
        for (int k = 1; k <= 10; k++) {
            sum += (long) load(at(row, k)) * load(at(row, k));
        }
        return sum;
    }

    long squares() {
        return squaresIn(hand());
    }

    /** Whether a is the first of the two: the lesser set at the first station that differs. */
    boolean isBefore(int[] a, int[] b) {
        for (int k = 1; k <= 10; k++) {
            int x = set(at(a, k));
            int y = set(at(b, k));
            if (x != y) {
                return x < y;
            }
        }
        return false;
    }

    /** Tries all puttings with stations up to 0, 1, 2 and so on, until one is right. */
    boolean enumerate() {
        for (foundLength = 0; foundLength <= 10; foundLength++) {
            foundMany = 0;
            foundBest = null;
            foundEvenest = null;
            tryAll(new int[n()], 0);
            if (foundMany > 0) {
                return true;
            }
        }
        return false;
    }

    void tryAll(int[] row, int t) {
        if (t == n()) {
            if (clashIn(row) < 0) {
                note(row);
            }
            return;
        }
        for (int k = 1; k <= foundLength; k++) {
            row[t] = k;
            // A load only grows, so that no right putting is passed over here.
            if (load(at(row, k)) <= room() && holdsAndPairs(row, t)) {
                tryAll(row, t + 1);
            }
        }
        row[t] = 0;
    }

    boolean holdsAndPairs(int[] row, int t) {
        int held = now.tasks.get(t).held;
        if (held != 0 && held != row[t]) {
            return false;
        }
        for (int o = 0; o < t; o++) {
            if (now.pairs[t][o] != 0 && (row[o] == row[t]) != (now.pairs[t][o] == 1)) {
                return false;
            }
        }
        return true;
    }

    void note(int[] row) {
        foundMany++;
        if (foundBest == null || isBefore(row, foundBest)) {
            foundBest = row.clone();
        }
        long squares = squaresIn(row);
        if (foundEvenest == null || squares < foundSquares
                || squares == foundSquares && isBefore(row, foundEvenest)) {
            foundEvenest = row.clone();
            foundSquares = squares;
        }
    }

    long fewest() {
        return enumerate() ? foundLength : -4;
    }

    long many() {
        return enumerate() ? foundMany : 0;
    }

    long best(boolean even) {
        if (!enumerate()) {
            return -4;
        }
        setHand(even ? foundEvenest : foundBest);
        return foundLength;
    }

    long evenest() {
        return enumerate() ? foundSquares : -1;
    }

    /** The least greatest load of a putting that is right but for its loads, made a beat. */
    long leastBeat(int m) {
        if (m < 1 || m > 10) {
            return -2;
        }
        int beat = now.beat;
        now.beat = 1000;
        foundMost = Integer.MAX_VALUE;
        tryLoads(new int[n()], 0, m);
        now.beat = beat;
        if (foundMost == Integer.MAX_VALUE) {
            return -4;
        }
        int least = Math.max(1, (foundMost + unit() - 1) / unit());
        return least > 1000 ? -4 : least;
    }

    void tryLoads(int[] row, int t, int m) {
        int most = 0;
        for (int k = 1; k <= m; k++) {
            most = Math.max(most, load(at(row, k)));
        }
        if (most >= foundMost) {
            return;
        }
        if (t == n()) {
            if (clashIn(row) < 0) {
                foundMost = most;
            }
            return;
        }
        for (int k = 1; k <= m; k++) {
            row[t] = k;
            if (holdsAndPairs(row, t)) {
                tryLoads(row, t + 1, m);
            }
        }
        row[t] = 0;
    }

    int up(int a, int b) {
        return a / b + (a % b > 0 ? 1 : 0);
    }

    long bound(int which) {
        if (which == 0) {
            boolean[] every = new boolean[n()];
            Arrays.fill(every, true);
            return up(load(every), room());
        }
        if (which != 1) {
            return -2;
        }
        int over = 0;
        int half = 0;
        for (int t = 0; t < n(); t++) {
            int twice = load(only(t)) * 2;
            over += twice > room() ? 1 : 0;
            half += twice == room() ? 1 : 0;
        }
        return over + up(half, 2);
    }

    long early(int t) {
        return has(t) ? up(load(with(leading(t), t)), room()) : -2;
    }

    long late(int t, int m) {
        if (!has(t) || m < 1 || m > 10) {
            return -2;
        }
        return m + 1 - up(load(with(following(t), t)), room());
    }

    long rule(int which) {
        if (which < 0 || which > 3) {
            return -2;
        }
        for (int t = 0; t < n(); t++) {
            if (load(only(t)) > room()) {
                return -4;
            }
        }
        int[] row = new int[n()];
        int k = 1;
        while (Arrays.stream(row).anyMatch(s -> s == 0)) {
            int first = -1;
            for (int t = 0; t < n(); t++) {
                boolean open = allUpTo(leading(t), row, 10)
                        || now.kind == 1 && allUpTo(following(t), row, 10);
                if (row[t] != 0 || !open || load(with(at(row, k), t)) > room()) {
                    continue;
                }
                if (first < 0 || worth(which, t) > worth(which, first)) {
                    first = t;
                }
            }
            if (first >= 0) {
                row[first] = k;
            } else {
                k++;
            }
            if (k == 11) {
                return -4;
            }
        }
        setHand(row);
        return lengthIn(row);
    }

    int worth(int which, int t) {
        if (which == 0) {
            return load(only(t));
        }
        if (which == 1) {
            return load(with(following(t), t));
        }
        return which == 2 ? Integer.bitCount(set(following(t))) : 0;
    }

    long better() {
        int[] row = hand();
        if (clashIn(row) >= 0) {
            return -4;
        }
        int moves = 0;
        int[] next = moved(row);
        while (next != null) {
            row = next;
            moves++;
            next = moved(row);
        }
        setHand(row);
        return moves;
    }

    int[] moved(int[] row) {
        for (int t = 0; t < n(); t++) {
            for (int k = 1; k <= lengthIn(row); k++) {
                int[] next = row.clone();
                next[t] = k;
                if (clashIn(next) < 0 && squaresIn(next) < squaresIn(row)) {
                    return next;
                }
            }
        }
        return null;
    }

    long sheet(int s, int sort, int n) {
        if (s < 0 || s > 3 || sort < 0 || sort > 2 || n > 40) {
            return -2;
        }
        if (n < 0) {
            return host(-13);
        }
        sheets[s] = sort == 0 ? new byte[n] : sort == 1 ? new short[n] : new int[n];
        return n;
    }

    int sizeOf(Object sheet) {
        return java.lang.reflect.Array.getLength(sheet);
    }

    int sortOf(Object sheet) {
        return sheet instanceof byte[] ? 0 : sheet instanceof short[] ? 1 : 2;
    }

    long write(int s, int i, int v) {
        if (s < 0 || s > 3) {
            return -2;
        }
        if (sheets[s] == null) {
            return host(-10);
        }
        if (i < 0 || i >= sizeOf(sheets[s])) {
            return host(-11);
        }
        int was = java.lang.reflect.Array.getInt(sheets[s], i);
        if (sheets[s] instanceof byte[] row) {
            row[i] = (byte) v;
        } else if (sheets[s] instanceof short[] row) {
            row[i] = (short) v;
        } else if (sheets[s] instanceof int[] row) {
            row[i] = v;
        }
        return was;
    }

    long take(int make, int s, int sort, int i) {
        if (make < 0 || make > 2 || s < 0 || s > 3 || sort < 0 || sort > 2) {
            return -2;
        }
        if (sheets[s] == null) {
            return host(-10);
        }
        if (sortOf(sheets[s]) != sort) {
            return host(-12);
        }
        if (n() > 0 && (i < 0 || (long) i + n() > sizeOf(sheets[s]))) {
            return host(-11);
        }
        int so = 0;
        for (int t = 0; t < n(); t++) {
            int v = java.lang.reflect.Array.getInt(sheets[s], i + t);
            so += v < 1 || v > 100 ? 1 : 0;
            now.tasks.get(t).times[make] = v < 1 ? 1 : v > 100 ? 100 : v;
        }
        return so;
    }

    long lose(int s) {
        if (s < 0 || s > 3) {
            return -2;
        }
        int was = sheets[s] == null ? 0 : 1;
        sheets[s] = null;
        return was;
    }

    long tell(int v) {
        if (waiting.size() == 20) {
            return -2;
        }
        waiting.add(v);
        return waiting.size();
    }

    long check() {
        int[] row = waiting.stream().mapToInt(v -> v).toArray();
        waiting.clear();
        if (row.length != n() || Arrays.stream(row).anyMatch(k -> k < 0 || k > 10)) {
            return -2;
        }
        int t = clashIn(row);
        return t < 0 ? 0 : 10 * t + causeIn(row, t);
    }

    long keep() {
        kept = now.copy();
        return n();
    }

    long back() {
        if (kept == null) {
            return host(-10);
        }
        now = kept.copy();
        return n();
    }

    long count(int what) {
        int[] counts = {n(), waiting.size(), findings, now.kind, now.beat, room()};
        return what >= 0 && what <= 5 ? counts[what] : -2;
    }
}

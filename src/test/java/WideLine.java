import java.util.HashMap;
import java.util.Map;

/**
 * The plain model for up to ten tasks: puttings are still put together station by station from the
 * document's words, but what can follow a set of tasks that are put is looked for once.
 */
final class WideLine extends PlainLine {
    /** What can be put at station k and on, when some tasks are put already. */
    private static final class Rest {
        long many = 0;
        long squares = Long.MAX_VALUE;
        int bestSet = 0;
        int evenSet = 0;
    }

    private final int[] loads = new int[1 << 10];
    private final int[] leading = new int[10];
    private final int[] following = new int[10];
    private Map<Integer, Rest> rests = new HashMap<>();
    private int last = 0;

    private void readBench() {
        for (int set = 0; set < 1 << n(); set++) {
            boolean[] in = new boolean[n()];
            for (int t = 0; t < n(); t++) {
                in[t] = (set >> t & 1) == 1;
            }
            loads[set] = load(in);
        }
        for (int t = 0; t < n(); t++) {
            leading[t] = set(leading(t));
            following[t] = set(following(t));
        }
    }

    private boolean mayStand(int set, int k, int upToHere) {
        if (loads[set] > room()) {
            return false;
        }
        for (int t = 0; t < n(); t++) {
            if ((set >> t & 1) == 1 && !mayStandAmong(t, set, k, upToHere)) {
                return false;
            }
        }
        return true;
    }

    private boolean mayStandAmong(int t, int set, int k, int upToHere) {
        int held = now.tasks.get(t).held;
        if (held != 0 && held != k) {
            return false;
        }
        for (int o = 0; o < n(); o++) {
            boolean isHere = (set >> o & 1) == 1;
            if (now.pairs[t][o] == 1 && !isHere || now.pairs[t][o] == 2 && isHere) {
                return false;
            }
        }
        return (leading[t] | upToHere) == upToHere
                || now.kind == 1 && (following[t] | upToHere) == upToHere;
    }

    private Rest restFrom(int k, int put) {
        int key = k << 10 | put;
        Rest known = rests.get(key);
        if (known != null) {
            return known;
        }
        Rest rest = new Rest();
        int all = (1 << n()) - 1;
        if (k > last) {
            rest.many = put == all ? 1 : 0;
            rest.squares = 0;
        } else {
            for (int set = 0; set <= all; set++) {
                if ((set & put) == 0 && mayStand(set, k, put | set)) {
                    join(rest, set, restFrom(k + 1, put | set));
                }
            }
        }
        rests.put(key, rest);
        return rest;
    }

    /** The sets come in their order, so that the first of equals stays. */
    private void join(Rest rest, int set, Rest after) {
        if (after.many == 0) {
            return;
        }
        if (rest.many == 0) {
            rest.bestSet = set;
        }
        rest.many += after.many;
        long squares = (long) loads[set] * loads[set] + after.squares;
        if (squares < rest.squares) {
            rest.squares = squares;
            rest.evenSet = set;
        }
    }

    private Rest restOf(int length) {
        last = length;
        rests = new HashMap<>();
        return restFrom(1, 0);
    }

    private int[] rowBy(boolean even) {
        int[] row = new int[n()];
        int put = 0;
        for (int k = 1; k <= last; k++) {
            Rest rest = restFrom(k, put);
            int set = even ? rest.evenSet : rest.bestSet;
            for (int t = 0; t < n(); t++) {
                row[t] = (set >> t & 1) == 1 ? k : row[t];
            }
            put |= set;
        }
        return row;
    }

    @Override
    boolean enumerate() {
        readBench();
        for (foundLength = 0; foundLength <= 10; foundLength++) {
            Rest rest = restOf(foundLength);
            if (rest.many > 0) {
                foundMany = rest.many;
                foundSquares = rest.squares;
                foundBest = rowBy(false);
                foundEvenest = rowBy(true);
                return true;
            }
        }
        return false;
    }

    /** The beats are gone through by halves: with a greater one no putting is lost. */
    @Override
    long leastBeat(int m) {
        if (m < 1 || m > 10) {
            return -2;
        }
        int beat = now.beat;
        readBench();
        int low = 1;
        int high = 1001;
        while (low < high) {
            now.beat = (low + high) / 2;
            if (restOf(m).many > 0) {
                high = now.beat;
            } else {
                low = now.beat + 1;
            }
        }
        now.beat = beat;
        return low > 1000 ? -4 : low;
    }
}

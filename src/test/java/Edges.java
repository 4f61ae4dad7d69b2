import java.util.ArrayList;
import java.util.List;

/** What the tests of boundary cases share: benches, and the answers that are due. */
final class Edges {
    static final int BAD = -2;
    static final int RING = -3;
    static final int NONE = -4;
    static final int NOTHING = -10;
    static final int PLACE = -11;
    static final int SORT = -12;
    static final int SIZE = -13;
    static final int LINE = 0;
    static final int BENT = 1;
    static final int MEAN = 2;
    static final int EACH = 3;

    private final String name;
    private final List<String> wrong = new ArrayList<>();
    private int asked = 0;
    private String part = "";

    Edges(String name) {
        this.name = name;
    }

    /** Names the promise and its words that the next answers are about. */
    void of(String words) {
        part = words;
    }

    void due(String what, long got, long want) {
        asked++;
        if (got != want) {
            wrong.add(part + ": " + what + " answered " + got + ", due is " + want);
        }
    }

    void end() {
        for (String row : wrong) {
            System.out.println(row);
        }
        System.out.println(name + ": " + asked + " answers, " + wrong.size() + " wrong");
        if (!wrong.isEmpty()) {
            System.exit(1);
        }
    }

    void hand(StationLine x, int... want) {
        for (int t = 0; t < want.length; t++) {
            due("station of " + t, x.of(t, 7), want[t]);
        }
    }

    static StationLine with(int... times) {
        StationLine x = new StationLine();
        for (int t = 0; t < times.length; t++) {
            x.task();
            x.time(t, 0, times[t]);
        }
        return x;
    }

    /** Ten tasks, each with the same time for all makes. */
    static StationLine tenOf(int time) {
        StationLine x = new StationLine();
        for (int t = 0; t < 10; t++) {
            x.task();
            for (int make = 0; make < 3; make++) {
                x.time(t, make, time);
            }
        }
        return x;
    }

    static StationLine chained(StationLine x) {
        for (int t = 1; t < x.count(0); t++) {
            x.ahead(t - 1, t);
        }
        return x;
    }

    static StationLine shared(StationLine x, int a, int b, int c) {
        x.share(1, 9);
        x.share(0, a);
        x.share(2, c);
        x.share(1, b);
        return x;
    }

    static void putAll(StationLine x, int... row) {
        for (int t = 0; t < row.length; t++) {
            x.put(t, row[t]);
        }
    }

    static int judged(StationLine x, int... row) {
        for (int k : row) {
            x.tell(k);
        }
        return x.check();
    }
}

import java.util.ArrayList;
import java.util.List;

/** Each promise of the document by calls whose answers are worked out by hand. */
public final class PromiseTest {
    private static final int BAD = -2;
    private static final int RING = -3;
    private static final int NONE = -4;
    private static final int NOTHING = -10;
    private static final int PLACE = -11;
    private static final int SORT = -12;
    private static final int SIZE = -13;
    private static final int LOW = Integer.MIN_VALUE;
    private static final int HIGH = Integer.MAX_VALUE;

    private static final List<String> wrong = new ArrayList<>();
    private static int asked = 0;
    private static int promise = 0;

    public static void main(String[] args) {
        newObject();
        tasks();
        times();
        shares();
        ahead();
        free();
        rings();
        ringsStay();
        pairs();
        holds();
        kinds();
        beats();
        ofTask();
        puts();
        causes();
        causeOrder();
        causesOfOpenHand();
        causesBent();
        clashes();
        stations();
        lengths();
        squareSums();
        fewest();
        fewestByPairsAndHolds();
        fewestByKind();
        bentLines();
        many();
        bests();
        bestWithEmptyStations();
        evenest();
        evenestTies();
        leastBeats();
        bounds();
        boundsEach();
        earlyAndLate();
        rules();
        ruleOrders();
        rulesBent();
        betters();
        betterOnEach();
        sheets();
        writes();
        takes();
        loses();
        tells();
        checks();
        keeps();
        keepsAll();
        backKeepsTheRest();
        counts();
        findingsChangeNothing();
        for (String row : wrong) {
            System.out.println(row);
        }
        System.out.println("PromiseTest: " + asked + " answers, " + wrong.size() + " wrong");
        if (!wrong.isEmpty()) {
            System.exit(1);
        }
    }

    private static void due(String what, long got, long want) {
        asked++;
        if (got != want) {
            wrong.add("promise " + promise + ": " + what + " answered " + got + ", due is " + want);
        }
    }

    private static StationLine with(int... times) {
        StationLine x = new StationLine();
        for (int t = 0; t < times.length; t++) {
            x.task();
            x.time(t, 0, times[t]);
        }
        return x;
    }

    private static void hand(String what, StationLine x, int... want) {
        for (int t = 0; t < want.length; t++) {
            due(what + ": station of " + t, x.of(t, 7), want[t]);
        }
    }

    private static void putAll(StationLine x, int... row) {
        for (int t = 0; t < row.length; t++) {
            x.put(t, row[t]);
        }
    }

    private static int judged(StationLine x, int... row) {
        for (int k : row) {
            x.tell(k);
        }
        return x.check();
    }

    private static void newObject() {
        promise = 1;
        StationLine x = new StationLine();
        due("tasks", x.count(0), 0);
        due("waiting", x.count(1), 0);
        due("findings", x.count(2), 0);
        due("kind", x.count(3), 0);
        due("beat", x.count(4), 10);
        due("room", x.count(5), 10);
        due("length", x.length(), 0);
        due("ring", x.ring(0), NONE);
        for (int s = 0; s < 4; s++) {
            due("sheet " + s, x.lose(s), 0);
        }
        due("kept", x.back(), NOTHING);
        due("share 0 at first", x.share(0, 1), 1);
        due("share 1 at first", x.share(1, 0), 0);
        due("share 2 at first", x.share(2, 0), 0);
        StationLine y = new StationLine();
        y.task();
        due("objects are apart", x.count(0), 0);
    }

    private static void tasks() {
        promise = 2;
        StationLine x = new StationLine();
        for (int t = 0; t < 10; t++) {
            due("task", x.task(), t);
        }
        due("eleventh", x.task(), BAD);
        due("still ten", x.count(0), 10);
        for (int what = 0; what < 9; what++) {
            due("of 9 " + what, x.of(9, what), what < 3 || what == 8 ? 1 : 0);
        }
    }

    private static void times() {
        promise = 3;
        StationLine x = with(1, 1);
        due("at first", x.time(1, 2, 100), 1);
        due("was", x.time(1, 2, 7), 100);
        due("other make", x.of(1, 1), 1);
        due("other task", x.of(0, 2), 1);
        due("least", x.time(0, 0, 1), 1);
        int[][] bad = {{2, 0, 5}, {-1, 0, 5}, {0, 3, 5}, {0, -1, 5}, {0, 0, 0}, {0, 0, 101},
            {HIGH, 0, 5}, {LOW, 0, 5}, {0, HIGH, 5}, {0, LOW, 5}, {0, 0, HIGH}, {0, 0, LOW}};
        for (int[] b : bad) {
            due("bad time", x.time(b[0], b[1], b[2]), BAD);
        }
        due("unchanged", x.of(0, 0), 1);
        due("set", x.of(1, 2), 7);
    }

    private static void shares() {
        promise = 4;
        StationLine x = with(2);
        x.line(2);
        due("raise", x.share(2, 9), 0);
        due("room", x.count(5), 100);
        due("lower", x.share(0, 0), 1);
        due("room", x.count(5), 90);
        due("all 0", x.share(2, 0), BAD);
        due("room", x.count(5), 90);
        due("same", x.share(2, 9), 9);
        due("make 3", x.share(3, 1), BAD);
        due("make -1", x.share(-1, 1), BAD);
        due("v -1", x.share(0, -1), BAD);
        due("v 10", x.share(0, 10), BAD);
        due("far", x.share(HIGH, LOW), BAD);
        due("0 again where it was 0", x.share(1, 0), 0);
    }

    private static void ahead() {
        promise = 5;
        StationLine x = with(1, 1, 1);
        due("new", x.ahead(0, 1), 1);
        due("already", x.ahead(0, 1), 0);
        due("itself", x.ahead(1, 1), RING);
        due("back", x.ahead(1, 0), RING);
        due("chain", x.ahead(1, 2), 1);
        due("long ring", x.ahead(2, 0), RING);
        due("short cut", x.ahead(0, 2), 1);
        due("ahead of 0", x.of(0, 3), 0);
        due("ahead of 2", x.of(2, 3), 3);
        due("no task", x.ahead(0, 3), BAD);
        due("no task", x.ahead(3, 0), BAD);
        due("no task", x.ahead(-1, -1), BAD);
        due("no task", x.ahead(HIGH, LOW), BAD);
    }

    private static void free() {
        promise = 6;
        StationLine x = with(1, 1, 1);
        x.ahead(0, 1);
        x.ahead(1, 2);
        x.ahead(0, 2);
        due("there", x.free(0, 1), 1);
        due("no more", x.free(0, 1), 0);
        due("other way", x.free(2, 1), 0);
        due("itself", x.free(1, 1), 0);
        due("leading 2 stays", x.of(2, 4), 3);
        due("leading 1", x.of(1, 4), 0);
        due("following 0", x.of(0, 5), 4);
        due("way is open", x.ahead(1, 0), 1);
        due("no task", x.free(0, 3), BAD);
        due("no task", x.free(-1, 0), BAD);
        due("no task", x.free(HIGH, 0), BAD);
    }

    private static void rings() {
        promise = 7;
        StationLine x = with(1, 1, 1, 1, 1, 1, 1);
        due("none yet", x.ring(0), NONE);
        x.ahead(0, 5);
        x.ahead(5, 6);
        x.ahead(0, 4);
        x.ahead(4, 6);
        x.ahead(0, 1);
        x.ahead(1, 2);
        x.ahead(2, 6);
        due("ring", x.ahead(6, 0), RING);
        int[] want = {6, 0, 4, NONE};
        for (int k = 0; k < want.length; k++) {
            due("fewest, then the lesser, " + k, x.ring(k), want[k]);
        }
        due("k below 0", x.ring(-1), NONE);
        due("k far", x.ring(HIGH), NONE);
        due("k far", x.ring(LOW), NONE);
        StationLine y = with(1, 1, 1, 1, 1, 1, 1, 1, 1, 1);
        for (int t = 9; t > 0; t--) {
            y.ahead(t, t - 1);
        }
        due("ring of all", y.ahead(0, 9), RING);
        due("first", y.ring(0), 0);
        for (int k = 1; k < 10; k++) {
            due("ring of all " + k, y.ring(k), 10 - k);
        }
        due("end", y.ring(10), NONE);
    }

    private static void ringsStay() {
        promise = 7;
        StationLine x = with(1, 1, 1);
        x.ahead(0, 1);
        x.keep();
        x.ahead(1, 0);
        due("ring", x.ring(0), 1);
        x.ahead(1, 2);
        x.ahead(0, 1);
        x.ahead(5, 0);
        x.free(0, 1);
        x.back();
        due("the latest stays, first", x.ring(0), 1);
        due("the latest stays, second", x.ring(1), 0);
        due("the latest stays, end", x.ring(2), NONE);
        x.ahead(2, 2);
        due("a later one", x.ring(0), 2);
        due("a later one is short", x.ring(1), NONE);
    }

    private static void pairs() {
        promise = 8;
        StationLine x = with(1, 1, 1);
        due("at first", x.pair(0, 1, 1), 0);
        due("both ways", x.pair(1, 0, 2), 1);
        due("apart", x.pair(0, 1, 2), 2);
        due("neither", x.pair(0, 1, 0), 2);
        due("was neither", x.pair(1, 0, 0), 0);
        due("same", x.pair(1, 1, 1), BAD);
        due("how 3", x.pair(0, 1, 3), BAD);
        due("how -1", x.pair(0, 1, -1), BAD);
        due("no task", x.pair(0, 3, 1), BAD);
        due("no task", x.pair(-1, 0, 1), BAD);
        due("far", x.pair(LOW, HIGH, HIGH), BAD);
        x.pair(0, 1, 1);
        x.pair(0, 1, 2);
        due("no more together", judged(x, 1, 2, 1), 0);
        due("but apart", judged(x, 1, 1, 1), 4);
    }

    private static void holds() {
        promise = 9;
        StationLine x = with(1, 1);
        due("at first", x.hold(1, 10), 0);
        due("was", x.hold(1, 3), 10);
        due("of", x.of(1, 6), 3);
        due("other", x.of(0, 6), 0);
        due("off", x.hold(1, 0), 3);
        due("station 11", x.hold(1, 11), BAD);
        due("station -1", x.hold(1, -1), BAD);
        due("no task", x.hold(2, 1), BAD);
        due("far", x.hold(LOW, HIGH), BAD);
        due("off still", x.of(1, 6), 0);
    }

    private static void kinds() {
        promise = 10;
        StationLine x = new StationLine();
        due("to 3", x.line(3), 0);
        due("to 1", x.line(1), 3);
        due("bad", x.line(4), BAD);
        due("bad", x.line(-1), BAD);
        due("bad", x.line(HIGH), BAD);
        due("stays", x.count(3), 1);
        due("to 0", x.line(0), 1);
    }

    private static void beats() {
        promise = 11;
        StationLine x = new StationLine();
        due("to 1000", x.beat(1000), 10);
        due("to 1", x.beat(1), 1000);
        due("bad", x.beat(0), BAD);
        due("bad", x.beat(1001), BAD);
        due("bad", x.beat(LOW), BAD);
        due("stays", x.count(4), 1);
    }

    private static void ofTask() {
        promise = 12;
        StationLine x = with(3, 4, 5, 6);
        x.time(2, 1, 8);
        x.time(2, 2, 9);
        x.ahead(0, 1);
        x.ahead(1, 2);
        x.ahead(2, 3);
        x.hold(2, 7);
        x.put(2, 4);
        int[] want = {5, 8, 9, 2, 3, 8, 7, 4, 5};
        for (int what = 0; what < 9; what++) {
            due("of 2 " + what, x.of(2, what), want[what]);
        }
        x.share(1, 2);
        x.line(2);
        due("load mean", x.of(2, 8), 21);
        x.line(3);
        due("load each", x.of(2, 8), 8);
        x.share(1, 0);
        due("load each of make 0 alone", x.of(2, 8), 5);
        x.line(1);
        due("load bent", x.of(2, 8), 5);
        due("what 9", x.of(2, 9), BAD);
        due("what -1", x.of(2, -1), BAD);
        due("task 4", x.of(4, 0), BAD);
        due("task -1", x.of(-1, 0), BAD);
        due("far", x.of(LOW, HIGH), BAD);
    }

    private static void puts() {
        promise = 13;
        StationLine x = with(1, 1);
        due("at first", x.put(0, 10), 0);
        due("was", x.put(0, 2), 10);
        due("none", x.put(0, 0), 2);
        due("no task", x.put(2, 1), BAD);
        due("no task", x.put(-1, 1), BAD);
        due("station 11", x.put(0, 11), BAD);
        due("station -1", x.put(0, -1), BAD);
        due("far", x.put(HIGH, LOW), BAD);
        due("stays", x.of(0, 7), 0);
    }

    private static void causes() {
        promise = 14;
        StationLine x = with(4, 6, 1);
        due("no station", x.cause(0), 1);
        putAll(x, 1, 1, 2);
        due("room is just enough", x.cause(0), 0);
        x.put(2, 1);
        due("above room", x.cause(2), 2);
        due("above room too", x.cause(0), 2);
        x.put(2, 2);
        x.pair(0, 2, 1);
        due("together, apart in fact", x.cause(0), 3);
        due("the other one too", x.cause(2), 3);
        x.pair(0, 2, 0);
        x.pair(0, 1, 2);
        due("apart, together in fact", x.cause(1), 4);
        x.pair(0, 1, 0);
        x.hold(1, 2);
        due("held elsewhere", x.cause(1), 5);
        x.hold(1, 1);
        due("held here", x.cause(1), 0);
        x.ahead(2, 0);
        due("one leading comes later", x.cause(0), 6);
        due("the leading one itself", x.cause(2), 0);
        x.put(2, 0);
        due("one leading has no station", x.cause(0), 6);
        due("no such task", x.cause(3), BAD);
        due("no such task", x.cause(-1), BAD);
        due("no such task", x.cause(HIGH), BAD);
    }

    private static void causeOrder() {
        promise = 14;
        StationLine x = with(6, 6, 1, 1);
        putAll(x, 1, 1, 2, 2);
        x.pair(0, 2, 1);
        x.pair(0, 1, 2);
        x.hold(0, 3);
        x.ahead(3, 0);
        due("2 is first", x.cause(0), 2);
        x.beat(12);
        due("3 is next", x.cause(0), 3);
        x.pair(0, 2, 0);
        due("4 is next", x.cause(0), 4);
        x.pair(0, 1, 0);
        due("5 is next", x.cause(0), 5);
        x.hold(0, 0);
        due("6 is last", x.cause(0), 6);
        x.free(3, 0);
        due("none", x.cause(0), 0);
        x.put(0, 0);
        x.pair(0, 2, 1);
        due("1 before 3", x.cause(0), 1);
        due("together with one without a station", x.cause(2), 3);
    }

    private static void causesOfOpenHand() {
        promise = 14;
        StationLine x = with(1, 1, 1);
        x.ahead(0, 1);
        x.ahead(1, 2);
        putAll(x, 3, 0, 3);
        due("all leading, not only those ahead", x.cause(2), 6);
        putAll(x, 3, 2, 3);
        due("the middle one", x.cause(1), 6);
        due("the last one is fine", x.cause(2), 0);
        putAll(x, 3, 3, 2);
        due("far leading counts", x.cause(2), 6);
        x.pair(0, 1, 2);
        putAll(x, 0, 0, 2);
        due("apart without stations", x.cause(0), 1);
    }

    private static void causesBent() {
        promise = 14;
        StationLine x = with(1, 1, 1);
        x.ahead(0, 1);
        x.ahead(1, 2);
        x.line(1);
        putAll(x, 3, 2, 1);
        due("all following are up to it", x.cause(1), 0);
        due("from the end", x.clash(), -1);
        putAll(x, 2, 1, 2);
        due("neither side is whole", x.cause(1), 6);
        due("clash", x.clash(), 1);
        x.put(2, 0);
        due("a missing follower is not there", x.cause(1), 6);
    }

    private static void clashes() {
        promise = 15;
        StationLine x = new StationLine();
        due("no tasks", x.clash(), -1);
        x.task();
        x.task();
        due("first of two", x.clash(), 0);
        x.put(0, 5);
        due("second", x.clash(), 1);
        x.put(1, 5);
        due("right", x.clash(), -1);
    }

    private static void stations() {
        promise = 16;
        StationLine x = with(4, 5, 6);
        putAll(x, 1, 10, 10);
        due("set", x.station(10, 0), 6);
        due("load", x.station(10, 1), 11);
        due("room less load", x.station(10, 2), -1);
        due("set", x.station(1, 0), 1);
        due("room left", x.station(1, 2), 6);
        due("empty set", x.station(2, 0), 0);
        due("empty load", x.station(2, 1), 0);
        due("empty room", x.station(2, 2), 10);
        due("k 0", x.station(0, 0), BAD);
        due("k 11", x.station(11, 0), BAD);
        due("what 3", x.station(1, 3), BAD);
        due("what -1", x.station(1, -1), BAD);
        due("far", x.station(LOW, HIGH), BAD);
        x.share(1, 3);
        x.line(2);
        due("mean load", x.station(10, 1), 17);
        due("mean room left", x.station(10, 2), 23);
        x.line(3);
        x.time(1, 1, 60);
        due("each load", x.station(10, 1), 61);
    }

    private static void lengths() {
        promise = 17;
        StationLine x = new StationLine();
        due("no tasks", x.length(), 0);
        x.task();
        x.task();
        due("no stations", x.length(), 0);
        x.put(1, 10);
        x.put(0, 3);
        due("greatest", x.length(), 10);
        x.put(1, 0);
        due("fallen", x.length(), 3);
    }

    private static void squareSums() {
        promise = 18;
        StationLine x = with(3, 4, 100);
        due("none", x.squares(), 0);
        putAll(x, 1, 1, 10);
        due("two stations", x.squares(), 49 + 10000);
        x.put(0, 2);
        due("three", x.squares(), 9 + 16 + 10000);
        StationLine y = new StationLine();
        for (int t = 0; t < 10; t++) {
            y.task();
            for (int make = 0; make < 3; make++) {
                y.time(t, make, 100);
                y.share(make, 9);
            }
            y.put(t, 1);
        }
        y.line(2);
        due("the greatest there is", y.squares(), 27000L * 27000L);
    }

    private static void fewest() {
        promise = 19;
        StationLine x = new StationLine();
        due("no tasks", x.fewest(), 0);
        StationLine y = with(5, 5, 5, 5);
        due("two and two", y.fewest(), 2);
        y.beat(9);
        due("one each", y.fewest(), 4);
        y.beat(4);
        due("too much", y.fewest(), NONE);
        StationLine z = with(10, 10, 10, 10, 10, 10, 10, 10, 10, 10);
        due("ten", z.fewest(), 10);
        for (int t = 0; t < 9; t++) {
            z.ahead(t, t + 1);
        }
        due("ten in a chain", z.fewest(), 10);
        z.hold(9, 9);
        due("too late", z.fewest(), NONE);
        due("hand stays", z.length(), 0);
    }

    private static void fewestByPairsAndHolds() {
        promise = 19;
        StationLine x = with(1, 1, 1);
        x.pair(0, 1, 2);
        due("apart", x.fewest(), 2);
        x.pair(1, 2, 2);
        x.pair(0, 2, 2);
        due("three apart", x.fewest(), 3);
        x.pair(0, 1, 1);
        due("together, then apart from one", x.fewest(), 2);
        x.pair(1, 2, 1);
        due("together by a third, and apart", x.fewest(), NONE);
        StationLine y = with(6, 5, 1);
        y.pair(0, 1, 1);
        due("together is too much", y.fewest(), NONE);
        y.beat(11);
        due("together fits", y.fewest(), 2);
        StationLine z = with(1, 1, 1);
        z.hold(1, 7);
        due("held late", z.fewest(), 7);
        z.ahead(0, 1);
        z.ahead(1, 2);
        due("follows the held one", z.fewest(), 7);
        z.hold(0, 8);
        due("leads it but is held later", z.fewest(), NONE);
        z.hold(0, 7);
        due("at one station", z.fewest(), 7);
        z.pair(0, 1, 1);
        due("together and held", z.fewest(), 7);
        z.pair(0, 1, 2);
        due("apart and held at one", z.fewest(), NONE);
    }

    private static void fewestByKind() {
        promise = 19;
        StationLine x = with(10, 10);
        due("a line", x.fewest(), 2);
        x.share(1, 1);
        x.line(2);
        due("mean: 11 and 11 of 20", x.fewest(), 2);
        x.share(1, 9);
        due("mean: 19 and 19 of 100", x.fewest(), 1);
        x.line(3);
        due("each: 20 of 10", x.fewest(), 2);
        x.share(0, 0);
        due("each: make 0 has no share", x.fewest(), 1);
        x.line(0);
        due("a line goes by make 0 without a share too", x.fewest(), 2);
        x.line(1);
        due("a bent one too", x.fewest(), 2);
        StationLine y = with(10, 1, 1);
        y.time(1, 1, 10);
        y.time(2, 2, 10);
        y.share(1, 1);
        y.share(2, 1);
        y.line(3);
        y.beat(12);
        due("each: the greatest of sums, not the sum of greatest", y.fewest(), 1);
    }

    private static void bentLines() {
        promise = 19;
        StationLine x = with(2, 9, 2, 9, 2);
        for (int t = 0; t < 4; t++) {
            x.ahead(t, t + 1);
        }
        due("straight", x.fewest(), 5);
        x.line(1);
        due("bent", x.fewest(), 4);
        x.pair(0, 4, 1);
        due("both ends together", x.fewest(), 4);
        x.pair(1, 3, 1);
        due("the inner two are too much", x.fewest(), NONE);
        x.beat(18);
        due("ends, inner two, middle", x.fewest(), 3);
    }

    private static void many() {
        promise = 20;
        StationLine x = new StationLine();
        due("no tasks", x.many(), 1);
        StationLine y = with(5, 5, 5, 5);
        due("pairs of four", y.many(), 6);
        y.ahead(0, 1);
        due("not 0 behind 1", y.many(), 4);
        y.line(1);
        due("bent: an end is open both ways", y.many(), 6);
        y.beat(4);
        due("none", y.many(), 0);
        StationLine z = new StationLine();
        for (int t = 0; t < 10; t++) {
            z.task();
        }
        z.hold(9, 10);
        due("nine tasks at any of ten stations", z.many(), 1000000000L);
        z.ahead(8, 9);
        due("one ahead of the held one", z.many(), 1000000000L);
        z.ahead(9, 8);
        z.free(8, 9);
        z.ahead(9, 8);
        due("one behind the held one", z.many(), 100000000L);
        StationLine w = with(10, 10, 10, 10, 10, 10, 10, 10, 10, 10);
        due("all orders", w.many(), 3628800);
    }

    private static void bests() {
        promise = 21;
        StationLine x = with(5, 5, 5, 5);
        due("best", x.best(false), 2);
        hand("the lesser set first", x, 1, 1, 2, 2);
        x.ahead(3, 0);
        due("best", x.best(false), 2);
        hand("3 is ahead of 0", x, 2, 1, 1, 2);
        due("not so: 6 is lesser than 9", x.station(1, 0), 6);
        x.ahead(0, 1);
        due("best", x.best(false), 2);
        hand("3, 0, 1", x, 1, 2, 2, 1);
        x.beat(4);
        due("none", x.best(false), NONE);
        due("none", x.best(true), NONE);
        hand("the hand stays", x, 1, 2, 2, 1);
        StationLine y = with(4, 4, 4, 4);
        y.beat(12);
        due("best", y.best(false), 2);
        hand("one alone, then three", y, 1, 2, 2, 2);
        due("evenest", y.best(true), 2);
        hand("two and two", y, 1, 1, 2, 2);
        StationLine z = new StationLine();
        due("no tasks", z.best(false), 0);
        due("no tasks", z.best(true), 0);
    }

    private static void bestWithEmptyStations() {
        promise = 21;
        StationLine x = with(3, 3, 3);
        x.hold(1, 4);
        due("best", x.best(false), 4);
        hand("the empty set is the least", x, 4, 4, 4);
        due("evenest", x.best(true), 4);
        hand("three stations, the first empty", x, 2, 4, 3);
        due("squares", x.squares(), 27);
        x.pair(0, 2, 1);
        due("best", x.best(false), 4);
        hand("all at the end", x, 4, 4, 4);
        due("evenest", x.best(true), 4);
        hand("the pair just ahead", x, 3, 4, 3);
    }

    private static void evenest() {
        promise = 22;
        StationLine x = new StationLine();
        due("no tasks", x.evenest(), 0);
        StationLine y = with(4, 4, 4, 4);
        y.beat(12);
        due("8 and 8", y.evenest(), 128);
        due("hand stays", y.length(), 0);
        y.ahead(0, 1);
        y.pair(1, 2, 1);
        y.pair(2, 3, 1);
        due("4 and 12", y.evenest(), 160);
        y.pair(0, 1, 1);
        due("none", y.evenest(), -1);
        y.beat(16);
        due("one station", y.evenest(), 256);
        StationLine z = with(10, 1);
        z.share(1, 2);
        z.time(1, 1, 10);
        z.line(2);
        due("mean: 12 and 21 of 30", z.evenest(), 12 * 12 + 21 * 21);
        z.line(3);
        due("each: 10 and 10", z.evenest(), 200);
    }

    private static void evenestTies() {
        promise = 21;
        StationLine x = with(1, 2, 3, 4);
        x.beat(6);
        due("5 and 5", x.evenest(), 50);
        due("best", x.best(true), 2);
        hand("{1, 2} before {0, 3}", x, 2, 1, 1, 2);
        x.ahead(3, 1);
        due("best", x.best(true), 2);
        hand("now {0, 3}", x, 1, 2, 2, 1);
    }

    private static void leastBeats() {
        promise = 23;
        StationLine x = new StationLine();
        for (int m = 1; m <= 10; m++) {
            due("no tasks", x.leastBeat(m), 1);
        }
        StationLine y = with(7, 5, 4, 3);
        due("one station", y.leastBeat(1), 19);
        due("two", y.leastBeat(2), 10);
        due("three", y.leastBeat(3), 7);
        due("ten", y.leastBeat(10), 7);
        due("beat stays", y.count(4), 10);
        y.ahead(0, 1);
        y.ahead(1, 2);
        y.ahead(2, 3);
        due("in a chain", y.leastBeat(2), 12);
        y.line(1);
        due("bent: both ends", y.leastBeat(2), 10);
        y.line(0);
        y.hold(3, 3);
        due("held beyond", y.leastBeat(2), NONE);
        due("held at the last", y.leastBeat(3), 7);
        due("m 0", y.leastBeat(0), BAD);
        due("m 11", y.leastBeat(11), BAD);
        due("m far", y.leastBeat(HIGH), BAD);
        due("m far", y.leastBeat(LOW), BAD);
        StationLine z = with(100, 100, 100, 100, 100, 100, 100, 100, 100, 100);
        due("the greatest", z.leastBeat(1), 1000);
        due("a tenth", z.leastBeat(10), 100);
        z.pair(0, 1, 2);
        due("apart", z.leastBeat(1), NONE);
        StationLine w = with(5, 4);
        w.share(1, 2);
        w.line(2);
        due("mean: 13 by 3", w.leastBeat(1), 5);
        due("mean: 7 by 3", w.leastBeat(2), 3);
        w.line(3);
        due("each: 9", w.leastBeat(1), 9);
    }

    private static void bounds() {
        promise = 24;
        StationLine x = new StationLine();
        due("no tasks", x.bound(0), 0);
        due("no tasks", x.bound(1), 0);
        StationLine y = with(5, 5, 5, 6, 4);
        due("25 by 10", y.bound(0), 3);
        due("one above, three halves", y.bound(1), 3);
        y.time(0, 0, 4);
        due("one above, two halves", y.bound(1), 2);
        y.time(0, 0, 10);
        due("30 by 10", y.bound(0), 3);
        due("two above, two halves", y.bound(1), 3);
        y.beat(31);
        due("within one", y.bound(0), 1);
        due("none is half", y.bound(1), 0);
        due("which 2", y.bound(2), BAD);
        due("which -1", y.bound(-1), BAD);
        due("which far", y.bound(LOW), BAD);
    }

    private static void boundsEach() {
        promise = 24;
        StationLine x = with(6, 1);
        x.time(1, 1, 6);
        x.share(1, 1);
        x.line(2);
        due("mean: 14 by 20", x.bound(0), 1);
        due("mean: 7 twice is below 20", x.bound(1), 0);
        x.line(3);
        due("each: 7 by 10", x.bound(0), 1);
        due("each: two above half", x.bound(1), 2);
        due("more than the fewest", x.fewest(), 1);
        x.share(1, 0);
        due("each: one above half", x.bound(1), 1);
    }

    private static void earlyAndLate() {
        promise = 25;
        StationLine x = with(5, 6, 7, 2);
        x.ahead(0, 1);
        x.ahead(1, 2);
        due("early 0", x.early(0), 1);
        due("early 1", x.early(1), 2);
        due("early 2", x.early(2), 2);
        due("early 3", x.early(3), 1);
        x.ahead(3, 1);
        due("early 2 with 3 too", x.early(2), 2);
        x.beat(20);
        due("early 2, just", x.early(2), 1);
        x.beat(10);
        due("no task", x.early(4), BAD);
        due("no task", x.early(-1), BAD);
        promise = 26;
        due("late 0", x.late(0, 3), 2);
        due("late 1", x.late(1, 3), 2);
        due("late 2", x.late(2, 3), 3);
        due("late 0 of 10", x.late(0, 10), 9);
        due("late 0 of 1", x.late(0, 1), 0);
        x.beat(1);
        due("below 0", x.late(0, 1), -16);
        due("no task", x.late(4, 1), BAD);
        due("no task", x.late(-1, 1), BAD);
        due("m 0", x.late(0, 0), BAD);
        due("m 11", x.late(0, 11), BAD);
        due("far", x.late(HIGH, LOW), BAD);
        promise = 25;
        x.beat(10);
        x.share(2, 1);
        x.line(2);
        due("mean: 24 by 20", x.early(2), 2);
        x.line(3);
        due("each", x.early(2), 2);
    }

    private static void rules() {
        promise = 27;
        StationLine x = new StationLine();
        for (int which = 0; which < 4; which++) {
            due("no tasks", x.rule(which), 0);
        }
        due("which 4", x.rule(4), BAD);
        due("which -1", x.rule(-1), BAD);
        due("which far", x.rule(HIGH), BAD);
        StationLine y = with(2, 11);
        putAll(y, 3, 0);
        due("one is too much", y.rule(0), NONE);
        hand("the hand stays", y, 3, 0);
        y.time(1, 0, 9);
        y.hold(0, 5);
        y.pair(0, 1, 1);
        due("held and paired don't count", y.rule(3), 2);
        hand("by number", y, 1, 2);
        due("greatest first", y.rule(0), 2);
        hand("by load", y, 2, 1);
        StationLine z = with(10, 10, 10, 10, 10, 10, 10, 10, 10, 10);
        due("ten stations", z.rule(0), 10);
        hand("of several the least", z, 1, 2, 3, 4, 5, 6, 7, 8, 9, 10);
    }

    private static void ruleOrders() {
        promise = 27;
        StationLine x = with(6, 3, 2, 4, 5, 1);
        x.ahead(1, 3);
        x.ahead(2, 4);
        x.ahead(2, 5);
        due("rule 0", x.rule(0), 3);
        hand("rule 0: 0 1, 3 2 5, 4", x, 1, 1, 2, 2, 3, 2);
        due("rule 1", x.rule(1), 3);
        hand("rule 1: 2 4 1, 0 3, 5", x, 2, 1, 1, 2, 1, 3);
        due("rule 2", x.rule(2), 3);
        hand("rule 2: 2 1 3 5, 0, 4", x, 2, 1, 1, 1, 3, 1);
        due("rule 3", x.rule(3), 3);
        hand("rule 3: 0 1, 2 3 5, 4", x, 1, 1, 2, 2, 3, 2);
    }

    private static void rulesBent() {
        promise = 27;
        StationLine x = with(5, 9, 5);
        x.ahead(0, 1);
        x.ahead(1, 2);
        due("straight", x.rule(3), 3);
        hand("in a row", x, 1, 2, 3);
        x.line(1);
        due("bent", x.rule(3), 2);
        hand("both ends at 1", x, 1, 2, 1);
        due("right", x.clash(), -1);
    }

    private static void betters() {
        promise = 28;
        StationLine x = new StationLine();
        due("no tasks", x.better(), 0);
        StationLine y = with(4, 3, 2, 1);
        due("no stations", y.better(), NONE);
        putAll(y, 1, 1, 1, 1);
        due("one station", y.better(), 0);
        y.put(3, 3);
        due("moves", y.better(), 3);
        hand("0 to 2, then 1 to 3, then 3 to 1", y, 2, 3, 1, 1);
        due("no more", y.better(), 0);
        StationLine z = with(4, 3, 2, 1);
        putAll(z, 1, 1, 1, 2);
        z.hold(0, 1);
        due("held stays, 1 moves", z.better(), 1);
        hand("4 + 2, 3 + 1", z, 1, 2, 1, 2);
        putAll(z, 1, 1, 1, 2);
        z.ahead(1, 3);
        due("1 may come up to 3", z.better(), 1);
        z.free(1, 3);
        z.ahead(3, 1);
        putAll(z, 1, 1, 1, 2);
        due("3 is ahead of 1: not right", z.better(), NONE);
        hand("the hand stays", z, 1, 1, 1, 2);
        StationLine w = with(4, 3, 2, 1);
        putAll(w, 1, 1, 1, 2);
        w.ahead(1, 3);
        w.pair(0, 3, 2);
        w.pair(1, 2, 1);
        due("nothing can be moved", w.better(), 0);
    }

    private static void betterOnEach() {
        promise = 28;
        StationLine x = with(9, 1, 2, 2);
        x.time(1, 1, 9);
        x.share(1, 1);
        x.line(3);
        putAll(x, 3, 2, 1, 1);
        due("from 81 + 81 + 16 to 100 + 16", x.better(), 1);
        hand("0 to 2; station 3 is beyond the length then", x, 2, 2, 1, 1);
        due("length fell", x.length(), 2);
        due("squares", x.squares(), 116);
    }

    private static void sheets() {
        promise = 29;
        StationLine x = new StationLine();
        due("greatest", x.sheet(3, 2, 40), 40);
        due("empty", x.sheet(0, 0, 0), 0);
        due("above", x.sheet(0, 0, 41), BAD);
        due("far above", x.sheet(0, 0, HIGH), BAD);
        due("sheet 4", x.sheet(4, 0, 1), BAD);
        due("sheet -1", x.sheet(-1, 0, 1), BAD);
        due("sort 3", x.sheet(0, 3, 1), BAD);
        due("sort -1", x.sheet(0, -1, 1), BAD);
        due("no findings of the host yet", x.count(2), 0);
        due("below", x.sheet(0, 0, -1), SIZE);
        due("far below", x.sheet(0, 0, LOW), SIZE);
        due("bad goes first", x.sheet(4, 0, -1), BAD);
        due("bad goes first", x.sheet(0, 3, -1), BAD);
        due("findings", x.count(2), 2);
        x.sheet(1, 2, 2);
        x.write(1, 1, 77);
        due("size leaves it", x.sheet(1, 0, -5), SIZE);
        due("still there", x.write(1, 1, 78), 77);
        due("anew", x.sheet(1, 2, 2), 2);
        due("all 0", x.write(1, 1, 1), 0);
    }

    private static void writes() {
        promise = 30;
        StationLine x = new StationLine();
        for (int sort = 0; sort < 3; sort++) {
            x.sheet(sort, sort, 3);
        }
        int[] told = {127, 128, 255, 256, -129, 32767, 32768, 65535, -32769, HIGH, LOW};
        int[] bytes = {127, -128, -1, 0, 127, -1, 0, -1, -1, -1, 0};
        for (int i = 0; i < told.length; i++) {
            x.write(0, 2, told[i]);
            due("byte of " + told[i], x.write(0, 2, 0), bytes[i]);
            x.write(1, 2, told[i]);
            due("short of " + told[i], x.write(1, 2, 0), (short) told[i]);
            x.write(2, 2, told[i]);
            due("int of " + told[i], x.write(2, 2, 0), told[i]);
        }
        due("other place", x.write(0, 1, 5), 0);
        due("place 3", x.write(0, 3, 5), PLACE);
        due("place -1", x.write(0, -1, 5), PLACE);
        due("place far", x.write(0, HIGH, 5), PLACE);
        due("missing", x.write(3, 0, 5), NOTHING);
        due("missing goes first", x.write(3, -1, 5), NOTHING);
        due("no sheet", x.write(4, 0, 5), BAD);
        due("no sheet", x.write(-1, 0, 5), BAD);
        due("findings", x.count(2), 5);
    }

    private static void takes() {
        promise = 31;
        StationLine x = with(9, 9, 9);
        x.sheet(1, 1, 5);
        int[] told = {50, 100, 101, 0, -3};
        for (int i = 0; i < 5; i++) {
            x.write(1, i, told[i]);
        }
        due("one above", x.take(2, 1, 1, 0), 1);
        due("50", x.of(0, 2), 50);
        due("100", x.of(1, 2), 100);
        due("101 being 100", x.of(2, 2), 100);
        due("other make", x.of(0, 0), 9);
        due("all out", x.take(0, 1, 1, 2), 3);
        due("100", x.of(0, 0), 100);
        due("0 being 1", x.of(1, 0), 1);
        due("-3 being 1", x.of(2, 0), 1);
        due("not so many", x.take(0, 1, 1, 3), PLACE);
        due("below 0", x.take(0, 1, 1, -1), PLACE);
        due("far", x.take(0, 1, 1, HIGH), PLACE);
        due("far", x.take(0, 1, 1, LOW), PLACE);
        due("another sort", x.take(0, 1, 0, 0), SORT);
        due("another sort", x.take(0, 1, 2, -9), SORT);
        due("missing", x.take(0, 0, 1, -9), NOTHING);
        due("make 3", x.take(3, 0, 1, 0), BAD);
        due("make -1", x.take(-1, 0, 1, 0), BAD);
        due("sheet 4", x.take(0, 4, 1, 0), BAD);
        due("sort 3", x.take(0, 0, 3, 0), BAD);
        due("sort -1", x.take(0, 0, -1, 0), BAD);
        due("findings", x.count(2), 7);
        due("unchanged", x.of(0, 0), 100);
        StationLine y = new StationLine();
        y.sheet(0, 2, 0);
        due("without tasks", y.take(0, 0, 2, 5), 0);
        due("without tasks, any place", y.take(0, 0, 2, LOW), 0);
        due("without tasks, sort counts", y.take(0, 0, 1, 0), SORT);
        due("without tasks, missing counts", y.take(0, 1, 1, 0), NOTHING);
    }

    private static void loses() {
        promise = 32;
        StationLine x = new StationLine();
        x.sheet(2, 0, 0);
        due("there, though empty", x.lose(2), 1);
        due("not there", x.lose(2), 0);
        due("missing now", x.write(2, 0, 0), NOTHING);
        due("sheet 4", x.lose(4), BAD);
        due("sheet -1", x.lose(-1), BAD);
        due("far", x.lose(LOW), BAD);
        due("findings", x.count(2), 1);
    }

    private static void tells() {
        promise = 33;
        StationLine x = new StationLine();
        for (int i = 1; i <= 20; i++) {
            due("tell", x.tell(i % 2 == 0 ? HIGH : LOW), i);
        }
        due("twenty wait", x.tell(1), BAD);
        due("still", x.count(1), 20);
        due("check", x.check(), BAD);
        due("none wait", x.count(1), 0);
        due("again", x.tell(1), 1);
    }

    private static void checks() {
        promise = 34;
        StationLine x = with(4, 6, 5);
        x.ahead(0, 2);
        putAll(x, 7, 8, 9);
        due("right", judged(x, 1, 1, 2), 0);
        due("none wait", x.count(1), 0);
        due("empty stations", judged(x, 3, 10, 10), 12);
        due("no station", judged(x, 1, 2, 0), 21);
        due("load", judged(x, 2, 1, 1), 12);
        due("order", judged(x, 3, 1, 2), 26);
        x.pair(0, 1, 1);
        due("together", judged(x, 1, 2, 2), 3);
        x.pair(0, 1, 2);
        due("apart", judged(x, 1, 1, 2), 4);
        x.hold(1, 2);
        due("held", judged(x, 1, 3, 2), 15);
        due("too few", judged(x, 1, 1), BAD);
        due("none wait", x.count(1), 0);
        due("too many", judged(x, 1, 1, 1, 1), BAD);
        due("station 11", judged(x, 1, 11, 1), BAD);
        due("station -1", judged(x, 1, 2, -1), BAD);
        due("station far", judged(x, HIGH, 2, 1), BAD);
        due("none wait", x.count(1), 0);
        hand("the hand stays", x, 7, 8, 9);
        StationLine y = new StationLine();
        due("no tasks", y.check(), 0);
        due("no tasks, one number", judged(y, 0), BAD);
        StationLine z = with(1, 1, 1, 1, 1, 1, 1, 1, 1, 1);
        due("the last task", judged(z, 1, 1, 1, 1, 1, 1, 1, 1, 1, 0), 91);
    }

    private static void keeps() {
        promise = 35;
        StationLine x = new StationLine();
        due("keep nothing much", x.keep(), 0);
        x.task();
        promise = 36;
        due("back", x.back(), 0);
        due("tasks", x.count(0), 0);
        due("task anew", x.task(), 0);
        promise = 35;
        due("keep", x.keep(), 1);
        x.task();
        due("keep the later", x.keep(), 2);
        x.task();
        promise = 36;
        due("back", x.back(), 2);
        x.task();
        due("back again", x.back(), 2);
        StationLine y = new StationLine();
        due("nothing", y.back(), NOTHING);
        due("a finding of the host", y.count(2), 1);
    }

    private static void keepsAll() {
        promise = 36;
        StationLine x = with(3, 4, 5);
        x.ahead(0, 1);
        x.ahead(1, 2);
        x.pair(0, 2, 1);
        x.pair(1, 2, 2);
        x.hold(1, 6);
        x.time(1, 2, 44);
        x.line(1);
        x.beat(12);
        putAll(x, 1, 2, 3);
        due("keep", x.keep(), 3);
        x.free(0, 1);
        x.pair(0, 2, 2);
        x.pair(1, 2, 0);
        x.hold(1, 0);
        x.time(1, 2, 1);
        x.time(0, 0, 9);
        x.line(2);
        x.beat(77);
        putAll(x, 4, 4, 0);
        x.task();
        x.time(3, 0, 50);
        x.ahead(3, 0);
        x.pair(3, 0, 1);
        x.hold(3, 9);
        x.put(3, 9);
        due("back", x.back(), 3);
        due("leading", x.of(2, 4), 3);
        due("following", x.of(0, 5), 6);
        due("held", x.of(1, 6), 6);
        due("time", x.of(1, 2), 44);
        due("time", x.of(0, 0), 3);
        due("kind", x.count(3), 1);
        due("beat", x.count(4), 12);
        hand("hand", x, 1, 2, 3);
        due("together", x.pair(0, 2, 1), 1);
        due("apart", x.pair(1, 2, 2), 2);
        due("a task anew", x.task(), 3);
        for (int what = 0; what < 9; what++) {
            due("fresh " + what, x.of(3, what), what < 3 || what == 8 ? 1 : 0);
        }
        due("fresh pair", x.pair(3, 0, 0), 0);
        due("not ahead", x.free(3, 0), 0);
    }

    private static void backKeepsTheRest() {
        promise = 36;
        StationLine x = with(3);
        x.keep();
        x.share(1, 5);
        x.tell(1);
        x.sheet(0, 0, 2);
        x.write(0, 5, 1);
        due("back", x.back(), 1);
        due("waiting numbers stay", x.count(1), 1);
        due("findings stay", x.count(2), 1);
        due("sheets stay", x.lose(0), 1);
        due("shares stay", x.share(1, 0), 5);
    }

    private static void counts() {
        promise = 37;
        StationLine x = with(1, 1);
        x.tell(4);
        x.write(0, 0, 0);
        x.line(2);
        x.share(1, 9);
        x.beat(1000);
        int[] want = {2, 1, 1, 2, 1000, 10000};
        for (int what = 0; what < 6; what++) {
            due("count " + what, x.count(what), want[what]);
        }
        x.line(3);
        due("room of each", x.count(5), 1000);
        x.line(1);
        due("room of bent", x.count(5), 1000);
        due("what 6", x.count(6), BAD);
        due("what -1", x.count(-1), BAD);
        due("what far", x.count(LOW), BAD);
        due("BAD, RING, NONE are none of the host's", x.ahead(0, 0) + x.ring(5), RING + NONE);
        due("findings", x.count(2), 1);
    }

    private static void findingsChangeNothing() {
        promise = 37;
        StationLine x = with(5, 5);
        putAll(x, 1, 2);
        x.ahead(0, 1);
        x.ahead(1, 0);
        x.time(0, 0, 200);
        x.line(9);
        x.beat(0);
        x.hold(0, 40);
        x.put(0, 40);
        due("still right", x.clash(), -1);
        due("squares", x.squares(), 50);
        due("ahead of 0", x.of(0, 3), 0);
        due("kind", x.count(3), 0);
        due("beat", x.count(4), 10);
    }
}

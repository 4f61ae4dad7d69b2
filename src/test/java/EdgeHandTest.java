/** The boundary cases that promises 13 to 18 name, the answers worked out by hand. */
public final class EdgeHandTest {
    private static final Edges edges = new Edges("EdgeHandTest");

    public static void main(String[] args) {
        putsFromNoneToTen();
        causeWithoutStation();
        causeOfLoad();
        causeOfLoadByKind();
        causeOfPairs();
        causeOfHold();
        causeOfOrder();
        causeOfOrderBent();
        causesPeelOffOneByOne();
        clashOfFirstAndLast();
        stationsAtTheEdge();
        lengthFromNoughtToTen();
        squaresFromNoughtToMost();
        edges.end();
    }

    private static void putsFromNoneToTen() {
        edges.of("13: a station, or none (0): what it had");
        StationLine x = Edges.tenOf(1);
        int was = 0;
        for (int k : new int[] {1, 10, 10, 0, 0, 7}) {
            edges.due("put", x.put(9, k), was);
            edges.due("of", x.of(9, 7), k);
            edges.due("other task", x.of(8, 7), 0);
            was = k;
        }
        edges.due("11", x.put(9, 11), Edges.BAD);
        edges.due("-1", x.put(9, -1), Edges.BAD);
        edges.due("stays", x.put(9, 7), 7);
        edges.of("13: a new task has no station");
        StationLine y = Edges.with(1);
        y.keep();
        y.task();
        y.put(1, 5);
        y.back();
        y.task();
        edges.due("of", y.of(1, 7), 0);
    }

    private static void causeWithoutStation() {
        edges.of("14: 1 it has no station");
        StationLine x = Edges.tenOf(1);
        for (int t = 0; t < 10; t++) {
            edges.due("none", x.cause(t), 1);
            x.put(t, 10);
            edges.due("the last station", x.cause(t), 0);
        }
        x.put(0, 1);
        edges.due("the first station", x.cause(0), 0);
        edges.of("14: BAD without tasks");
        edges.due("cause", new StationLine().cause(0), Edges.BAD);
    }

    private static void causeOfLoad() {
        edges.of("14: 2 the LOAD of its station is above ROOM");
        StationLine x = Edges.with(6, 4, 1);
        Edges.putAll(x, 3, 3, 4);
        edges.due("just ROOM", x.cause(0), 0);
        x.time(1, 0, 5);
        edges.due("above by one", x.cause(0), 2);
        edges.due("both tasks", x.cause(1), 2);
        edges.due("another station", x.cause(2), 0);
        x.beat(11);
        edges.due("just ROOM again", x.cause(1), 0);
        x.put(2, 3);
        edges.due("one more task", x.cause(1), 2);
        edges.of("14: the least ROOM and the greatest");
        StationLine y = Edges.tenOf(100);
        Edges.putAll(y, 1, 1, 1, 1, 1, 1, 1, 1, 1, 1);
        y.beat(1000);
        edges.due("1000", y.cause(9), 0);
        y.beat(999);
        edges.due("999", y.cause(9), 2);
        StationLine z = Edges.with(1, 1);
        Edges.putAll(z, 1, 2);
        z.beat(1);
        edges.due("1", z.cause(0), 0);
        z.put(1, 1);
        edges.due("2", z.cause(0), 2);
    }

    private static void causeOfLoadByKind() {
        edges.of("14: ROOM of a MEAN line is the BEAT times all SHARES");
        StationLine x = Edges.shared(Edges.with(4, 4), 2, 1, 0);
        x.time(0, 1, 13);
        x.line(Edges.MEAN);
        Edges.putAll(x, 1, 1);
        edges.due("21 and 9 of 30", x.cause(0), 0);
        x.time(0, 2, 100);
        edges.due("a MAKE without a SHARE", x.cause(0), 0);
        x.time(1, 1, 2);
        edges.due("31 of 30", x.cause(0), 2);
        edges.of("14: LOAD of an EACH line is the greatest sum");
        StationLine y = Edges.shared(Edges.with(4, 6), 1, 1, 0);
        y.time(0, 1, 9);
        y.line(Edges.EACH);
        Edges.putAll(y, 1, 1);
        edges.due("10 and 10", y.cause(0), 0);
        y.time(1, 1, 2);
        edges.due("10 and 11", y.cause(0), 2);
        y.share(1, 0);
        edges.due("10 alone", y.cause(0), 0);
    }

    private static void causeOfPairs() {
        edges.of("14: 3 TOGETHER with one that has another station (or none)");
        StationLine x = Edges.with(1, 1, 1);
        x.pair(0, 2, 1);
        Edges.putAll(x, 5, 1, 5);
        edges.due("the same", x.cause(0), 0);
        x.put(2, 6);
        edges.due("one more", x.cause(0), 3);
        edges.due("the other", x.cause(2), 3);
        x.put(2, 4);
        edges.due("one less", x.cause(0), 3);
        x.put(2, 0);
        edges.due("none", x.cause(0), 3);
        edges.due("the one without", x.cause(2), 1);
        edges.due("one beside", x.cause(1), 0);
        edges.of("14: 4 APART from one that has the same");
        x.pair(2, 0, 2);
        x.put(2, 5);
        edges.due("the same", x.cause(0), 4);
        edges.due("the other", x.cause(2), 4);
        x.put(2, 6);
        edges.due("one more", x.cause(0), 0);
        x.put(2, 0);
        edges.due("none", x.cause(0), 0);
        edges.of("14: TOGETHER goes from pair to pair by stations alone");
        StationLine y = Edges.with(1, 1, 1);
        y.pair(0, 1, 1);
        y.pair(1, 2, 1);
        Edges.putAll(y, 1, 1, 2);
        edges.due("0 is with 1", y.cause(0), 0);
        edges.due("1 is not with 2", y.cause(1), 3);
        edges.due("2 is not with 1", y.cause(2), 3);
    }

    private static void causeOfHold() {
        edges.of("14: 5 it is HELD elsewhere");
        StationLine x = Edges.with(1, 1);
        Edges.putAll(x, 10, 1);
        for (int k = 0; k <= 10; k++) {
            x.hold(0, k);
            edges.due("at 10, HELD " + k, x.cause(0), k == 0 || k == 10 ? 0 : 5);
            x.hold(1, k);
            edges.due("at 1, HELD " + k, x.cause(1), k == 0 || k == 1 ? 0 : 5);
        }
        x.put(0, 0);
        edges.due("without a station", x.cause(0), 1);
    }

    private static void causeOfOrder() {
        edges.of("14: 6 not all LEADING it are at stations up to its own");
        StationLine x = Edges.chained(Edges.with(1, 1, 1));
        Edges.putAll(x, 4, 4, 4);
        for (int t = 0; t < 3; t++) {
            edges.due("all at one", x.cause(t), 0);
        }
        x.put(0, 5);
        edges.due("the first of all", x.cause(0), 0);
        edges.due("one later ahead of it", x.cause(1), 6);
        edges.due("one later leading it", x.cause(2), 6);
        Edges.putAll(x, 3, 4, 5);
        edges.due("in their order", x.clash(), -1);
        x.put(1, 0);
        edges.due("one ahead of it has none", x.cause(2), 6);
        Edges.putAll(x, 0, 4, 4);
        edges.due("one leading it has none", x.cause(2), 6);
        edges.of("14: following ones don't count on a straight line");
        Edges.putAll(x, 3, 2, 1);
        edges.due("the middle", x.cause(1), 6);
        edges.due("the last", x.cause(2), 6);
        x.line(Edges.MEAN);
        edges.due("mean", x.cause(1), 6);
        x.line(Edges.EACH);
        edges.due("each", x.cause(1), 6);
    }

    private static void causeOfOrderBent() {
        edges.of("14: 6 of a BENT line: and not all FOLLOWING it");
        StationLine x = Edges.chained(Edges.with(1, 1, 1, 1));
        x.line(Edges.BENT);
        Edges.putAll(x, 4, 3, 2, 1);
        edges.due("wholly from the end", x.clash(), -1);
        Edges.putAll(x, 1, 2, 2, 1);
        edges.due("from both ends", x.clash(), -1);
        Edges.putAll(x, 2, 1, 1, 2);
        edges.due("the first follows none", x.cause(0), 0);
        edges.due("neither side", x.cause(1), 6);
        edges.due("neither side", x.cause(2), 6);
        edges.due("the last leads none", x.cause(3), 0);
        Edges.putAll(x, 2, 1, 1, 1);
        edges.due("all following are at its own", x.cause(1), 0);
        Edges.putAll(x, 2, 1, 1, 0);
        edges.due("one following has none", x.cause(1), 6);
        edges.due("nor all following 2", x.cause(2), 6);
        Edges.putAll(x, 1, 1, 1, 0);
        edges.due("all leading do", x.cause(1), 0);
        edges.of("14: a half of each side is not enough");
        StationLine y = Edges.with(1, 1, 1, 1, 1);
        y.ahead(0, 2);
        y.ahead(1, 2);
        y.ahead(2, 3);
        y.ahead(2, 4);
        y.line(Edges.BENT);
        Edges.putAll(y, 1, 3, 2, 1, 3);
        edges.due("one of each", y.cause(2), 6);
        y.put(4, 2);
        edges.due("all following", y.cause(2), 0);
        Edges.putAll(y, 2, 2, 2, 1, 3);
        edges.due("all leading", y.cause(2), 0);
    }

    private static void causesPeelOffOneByOne() {
        edges.of("14: the first of these");
        StationLine x = Edges.with(6, 5, 1, 1);
        Edges.putAll(x, 0, 1, 2, 2);
        x.pair(0, 2, 1);
        x.pair(0, 1, 2);
        x.hold(0, 3);
        x.ahead(3, 0);
        edges.due("all six", x.cause(0), 1);
        x.put(0, 1);
        edges.due("five", x.cause(0), 2);
        x.beat(11);
        edges.due("four", x.cause(0), 3);
        x.pair(0, 2, 0);
        edges.due("three", x.cause(0), 4);
        x.pair(0, 1, 0);
        edges.due("two", x.cause(0), 5);
        x.hold(0, 1);
        edges.due("one", x.cause(0), 6);
        x.put(3, 1);
        edges.due("another one's weight", x.cause(0), 2);
        x.beat(12);
        edges.due("none", x.cause(0), 0);
    }

    private static void clashOfFirstAndLast() {
        edges.of("15: the least task that has a CAUSE; -1 when RIGHT");
        edges.due("without tasks", new StationLine().clash(), -1);
        StationLine x = Edges.tenOf(1);
        for (int t = 0; t < 10; t++) {
            edges.due("up to " + t, x.clash(), t);
            x.put(t, 10);
        }
        edges.due("RIGHT", x.clash(), -1);
        x.hold(9, 9);
        edges.due("the last", x.clash(), 9);
        x.hold(0, 9);
        edges.due("the first of two", x.clash(), 0);
        x.hold(0, 10);
        x.hold(9, 10);
        edges.due("RIGHT", x.clash(), -1);
        x.beat(9);
        edges.due("all, the first", x.clash(), 0);
    }

    private static void stationsAtTheEdge() {
        edges.of("16: 1 .. 10");
        StationLine x = Edges.with(3, 4, 5);
        Edges.putAll(x, 1, 10, 10);
        int[] sets = {1, 0, 0, 0, 0, 0, 0, 0, 0, 6};
        int[] loads = {3, 0, 0, 0, 0, 0, 0, 0, 0, 9};
        for (int k = 1; k <= 10; k++) {
            edges.due("set", x.station(k, 0), sets[k - 1]);
            edges.due("LOAD", x.station(k, 1), loads[k - 1]);
            edges.due("ROOM less that", x.station(k, 2), 10 - loads[k - 1]);
        }
        edges.due("k 0: those without a station have none", x.station(0, 0), Edges.BAD);
        edges.due("k 11", x.station(11, 0), Edges.BAD);
        x.beat(9);
        edges.due("just full", x.station(10, 2), 0);
        x.beat(8);
        edges.due("above by one", x.station(10, 2), -1);
        x.beat(7);
        edges.due("above by two is no BAD", x.station(10, 2), -2);
        StationLine y = Edges.with(3);
        edges.due("a task without a station is at none", y.station(1, 0), 0);
    }

    private static void lengthFromNoughtToTen() {
        edges.of("17: 0 without tasks; the greatest station of a task");
        edges.due("without tasks", new StationLine().length(), 0);
        StationLine x = Edges.tenOf(1);
        edges.due("without stations", x.length(), 0);
        for (int k = 1; k <= 10; k++) {
            x.put(10 - k, k);
            edges.due("to " + k, x.length(), k);
        }
        x.put(0, 0);
        edges.due("the last goes", x.length(), 9);
        x.put(9, 0);
        edges.due("the first goes", x.length(), 9);
        edges.of("17: a hand that is not RIGHT has one too");
        StationLine y = Edges.with(100);
        y.put(0, 10);
        edges.due("too much", y.length(), 10);
    }

    private static void squaresFromNoughtToMost() {
        edges.of("18: the sum of the squares of the LOADS");
        edges.due("without tasks", new StationLine().squares(), 0);
        StationLine x = Edges.shared(Edges.tenOf(100), 9, 9, 9);
        edges.due("without stations", x.squares(), 0);
        x.put(9, 10);
        edges.due("one task", x.squares(), 10000);
        Edges.putAll(x, 10, 10, 10, 10, 10, 10, 10, 10, 10, 10);
        long[] one = {1000000, 1000000, 729000000, 1000000};
        for (int kind = 0; kind < 4; kind++) {
            x.line(kind);
            edges.due("all at one, KIND " + kind, x.squares(), one[kind]);
        }
        Edges.putAll(x, 1, 2, 3, 4, 5, 6, 7, 8, 9, 10);
        long[] ten = {100000, 100000, 72900000, 100000};
        for (int kind = 0; kind < 4; kind++) {
            x.line(kind);
            edges.due("one at each, KIND " + kind, x.squares(), ten[kind]);
        }
        x.put(0, 0);
        edges.due("one without a station", x.squares(), 90000);
    }
}

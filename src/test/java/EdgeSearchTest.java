/** The boundary cases that promises 19 to 23 name, the answers worked out by hand. */
public final class EdgeSearchTest {
    private static final Edges edges = new Edges("EdgeSearchTest");

    public static void main(String[] args) {
        nothingToPut();
        fewestFromOneToTen();
        fewestFailsByOne();
        fewestWithHolds();
        fewestWithPairs();
        fewestBentAtTheEdge();
        manyFromNoughtToMost();
        manyWithEmptyStations();
        bestGoesByTheLesserSet();
        bestReplacesTheHand();
        evenestOfSeveral();
        evenestFromLeastToMost();
        leastBeatFromOneToThousand();
        leastBeatByHolds();
        leastBeatByKind();
        searchesLeaveTheBench();
        edges.end();
    }

    private static void nothingToPut() {
        edges.of("19 to 28: without tasks");
        for (int kind = 0; kind < 4; kind++) {
            StationLine x = new StationLine();
            x.line(kind);
            x.beat(1);
            edges.due("fewest", x.fewest(), 0);
            edges.due("many", x.many(), 1);
            edges.due("best", x.best(false), 0);
            edges.due("best, even", x.best(true), 0);
            edges.due("evenest", x.evenest(), 0);
            edges.due("leastBeat 1", x.leastBeat(1), 1);
            edges.due("leastBeat 10", x.leastBeat(10), 1);
            edges.due("bound 0", x.bound(0), 0);
            edges.due("bound 1", x.bound(1), 0);
            edges.due("early", x.early(0), Edges.BAD);
            edges.due("late", x.late(0, 1), Edges.BAD);
            edges.due("better", x.better(), 0);
            for (int which = 0; which < 4; which++) {
                edges.due("rule", x.rule(which), 0);
            }
        }
    }

    private static void fewestFromOneToTen() {
        edges.of("19: from 1 to 10");
        StationLine x = Edges.tenOf(10);
        for (int n = 1; n <= 10; n++) {
            x.beat(10 * n);
            edges.due("BEAT for " + n, x.fewest(), (10 + n - 1) / n);
        }
        x.beat(99);
        edges.due("one less than all", x.fewest(), 2);
        Edges.chained(x);
        x.beat(19);
        edges.due("one less than two", x.fewest(), 10);
        x.beat(10);
        edges.due("ten in a chain", x.fewest(), 10);
        edges.due("one way", x.many(), 1);
        x.line(Edges.BENT);
        edges.due("bent", x.fewest(), 10);
        edges.due("from either end, nine times", x.many(), 512);
    }

    private static void fewestFailsByOne() {
        edges.of("19: NONE, there is no RIGHT putting");
        StationLine x = Edges.with(1, 100);
        x.beat(100);
        edges.due("just fits", x.fewest(), 2);
        x.beat(99);
        edges.due("one is above ROOM", x.fewest(), Edges.NONE);
        edges.due("many", x.many(), 0);
        edges.due("best", x.best(false), Edges.NONE);
        edges.due("best, even", x.best(true), Edges.NONE);
        edges.due("evenest", x.evenest(), -1);
        edges.of("19: ten stations are all there are");
        StationLine y = Edges.tenOf(10);
        y.hold(0, 10);
        edges.due("ten", y.fewest(), 10);
        y.hold(1, 10);
        edges.due("two at one station", y.fewest(), Edges.NONE);
        y.beat(20);
        edges.due("room for both", y.fewest(), 10);
    }

    private static void fewestWithHolds() {
        edges.of("19: a task that is HELD is there");
        StationLine x = Edges.chained(Edges.with(1, 1, 1));
        for (int k = 1; k <= 10; k++) {
            x.hold(1, k);
            edges.due("HELD at " + k, x.fewest(), k);
        }
        x.hold(0, 10);
        edges.due("one ahead at the same", x.fewest(), 10);
        x.hold(1, 9);
        edges.due("one ahead is later", x.fewest(), Edges.NONE);
        x.hold(0, 9);
        x.hold(2, 9);
        edges.due("all three at one", x.fewest(), 9);
        x.beat(2);
        edges.due("no room for three", x.fewest(), Edges.NONE);
        x.beat(3);
        edges.due("just room", x.fewest(), 9);
        x.hold(2, 8);
        edges.due("one behind is earlier", x.fewest(), Edges.NONE);
        StationLine y = Edges.tenOf(10);
        for (int t = 0; t < 10; t++) {
            y.hold(t, 10 - t);
        }
        edges.due("all HELD", y.fewest(), 10);
        edges.due("one way", y.many(), 1);
        y.ahead(9, 0);
        edges.due("in that order", y.fewest(), 10);
        y.ahead(0, 1);
        edges.due("against it", y.fewest(), Edges.NONE);
    }

    private static void fewestWithPairs() {
        edges.of("19: TOGETHER, APART");
        StationLine x = Edges.tenOf(1);
        for (int t = 1; t < 10; t++) {
            x.pair(t - 1, t, 1);
        }
        edges.due("all TOGETHER, just room", x.fewest(), 1);
        x.beat(9);
        edges.due("one too many", x.fewest(), Edges.NONE);
        x.pair(4, 5, 2);
        edges.due("two halves APART", x.fewest(), 2);
        edges.due("two ways", x.many(), 2);
        x.ahead(9, 0);
        edges.due("one order", x.many(), 1);
        x.ahead(1, 8);
        edges.due("each half waits for the other", x.fewest(), Edges.NONE);
        x.line(Edges.BENT);
        edges.due("bent, each is an end", x.fewest(), 2);
        edges.due("either first", x.many(), 2);
    }

    private static void fewestBentAtTheEdge() {
        edges.of("19: of a BENT line: or all FOLLOWING it");
        StationLine x = Edges.chained(Edges.with(1, 9, 9, 1));
        edges.due("straight", x.fewest(), 2);
        x.beat(9);
        edges.due("straight", x.fewest(), 4);
        x.line(Edges.BENT);
        edges.due("the ends go together", x.fewest(), 3);
        x.best(false);
        edges.hand(x, 1, 2, 3, 1);
        x.pair(0, 3, 2);
        edges.due("the ends are APART", x.fewest(), 4);
        x.pair(0, 3, 0);
        x.hold(1, 1);
        edges.due("the second at 1, all that lead or follow it can't be", x.fewest(), Edges.NONE);
        x.beat(10);
        edges.due("with the first", x.fewest(), 2);
        x.best(false);
        edges.hand(x, 1, 1, 2, 2);
    }

    private static void manyFromNoughtToMost() {
        edges.of("20: how many RIGHT puttings have that LENGTH; 0 without any");
        StationLine x = Edges.tenOf(1);
        edges.due("all at one", x.many(), 1);
        x.beat(9);
        edges.due("all but two at two", x.many(), 1022);
        x.beat(1);
        edges.due("one at each", x.many(), 3628800);
        x.beat(1000);
        x.hold(0, 10);
        edges.due("the others anywhere", x.many(), 1000000000L);
        x.beat(9);
        edges.due("but not all at 10", x.many(), 999999999L);
        x.hold(0, 9);
        edges.due("nine stations, not all at 9", x.many(), 387420488L);
        Edges.chained(x);
        x.beat(1000);
        edges.due("the first is at 9", x.many(), 1);
        x.hold(0, 0);
        x.hold(9, 10);
        edges.due("rows of nine that don't fall, of ten", x.many(), 48620);
        x.hold(0, 10);
        x.hold(9, 9);
        edges.due("none", x.many(), 0);
    }

    private static void manyWithEmptyStations() {
        edges.of("20: a station can be without tasks");
        StationLine x = Edges.with(5, 5);
        x.hold(0, 3);
        edges.due("the other at 1, 2 or 3", x.many(), 3);
        x.time(1, 0, 6);
        edges.due("at 1 or 2", x.many(), 2);
        x.hold(1, 2);
        edges.due("one", x.many(), 1);
        x.hold(1, 3);
        edges.due("none", x.many(), 0);
        x.hold(1, 4);
        edges.due("LENGTH 4", x.fewest(), 4);
        edges.due("one", x.many(), 1);
        edges.of("20: those of a greater LENGTH don't count");
        StationLine y = Edges.with(1);
        edges.due("one of ten", y.many(), 1);
    }

    private static void bestGoesByTheLesserSet() {
        edges.of("21: the lesser set at the first station at which two differ");
        StationLine x = Edges.tenOf(1);
        x.beat(9);
        edges.due("two stations", x.best(false), 2);
        edges.hand(x, 1, 2, 2, 2, 2, 2, 2, 2, 2, 2);
        x.beat(5);
        edges.due("half and half", x.best(false), 2);
        edges.hand(x, 1, 1, 1, 1, 1, 2, 2, 2, 2, 2);
        x.beat(4);
        edges.due("two, four, four", x.best(false), 3);
        edges.hand(x, 1, 1, 2, 2, 2, 2, 3, 3, 3, 3);
        x.beat(1);
        edges.due("ten", x.best(false), 10);
        edges.hand(x, 1, 2, 3, 4, 5, 6, 7, 8, 9, 10);
        for (int t = 1; t < 10; t++) {
            x.ahead(t, t - 1);
        }
        edges.due("ten in a chain", x.best(false), 10);
        edges.hand(x, 10, 9, 8, 7, 6, 5, 4, 3, 2, 1);
        x.line(Edges.BENT);
        edges.due("bent, the least is an end", x.best(false), 10);
        edges.hand(x, 1, 2, 3, 4, 5, 6, 7, 8, 9, 10);
        edges.of("21: no tasks are the least set");
        StationLine y = Edges.tenOf(1);
        y.hold(9, 10);
        edges.due("to 10", y.best(false), 10);
        edges.hand(y, 10, 10, 10, 10, 10, 10, 10, 10, 10, 10);
        y.beat(9);
        edges.due("one is too many", y.best(false), 10);
        edges.hand(y, 9, 10, 10, 10, 10, 10, 10, 10, 10, 10);
        edges.of("21: as a number: a greater task counts more than all lesser ones");
        StationLine z = Edges.with(2, 2, 2, 6);
        z.beat(6);
        edges.due("two", z.best(false), 2);
        edges.hand(z, 1, 1, 1, 2);
        z.ahead(3, 2);
        edges.due("8, not 7", z.best(false), 2);
        edges.hand(z, 2, 2, 2, 1);
    }

    private static void bestReplacesTheHand() {
        edges.of("21: THE HAND becomes THE BEST");
        StationLine x = Edges.with(1, 1);
        Edges.putAll(x, 9, 10);
        edges.due("its LENGTH", x.best(false), 1);
        edges.due("length", x.length(), 1);
        edges.hand(x, 1, 1);
        Edges.putAll(x, 0, 7);
        edges.due("its LENGTH", x.best(true), 1);
        edges.hand(x, 1, 1);
        edges.of("21: NONE, then THE HAND stays");
        Edges.putAll(x, 0, 7);
        x.pair(0, 1, 1);
        x.beat(1);
        edges.due("best", x.best(false), Edges.NONE);
        edges.hand(x, 0, 7);
        edges.due("best, even", x.best(true), Edges.NONE);
        edges.hand(x, 0, 7);
    }

    private static void evenestOfSeveral() {
        edges.of("21: of several again the one with the lesser set");
        StationLine x = Edges.tenOf(1);
        x.beat(9);
        edges.due("five and five", x.best(true), 2);
        edges.hand(x, 1, 1, 1, 1, 1, 2, 2, 2, 2, 2);
        x.ahead(9, 0);
        edges.due("0 behind 9: 62 is the least without 0", x.best(true), 2);
        edges.hand(x, 2, 1, 1, 1, 1, 1, 2, 2, 2, 2);
        x.beat(4);
        edges.due("3, 3, 4: 14 is the least of three without 0", x.best(true), 3);
        edges.hand(x, 3, 1, 1, 1, 2, 2, 2, 3, 3, 3);
        edges.of("21: empty stations, if the squares are the same");
        StationLine y = Edges.with(5, 6);
        y.hold(1, 4);
        edges.due("0 as late as can be", y.best(true), 4);
        edges.hand(y, 3, 4);
        y.beat(11);
        edges.due("apart is evener", y.best(true), 4);
        edges.hand(y, 3, 4);
        edges.due("all at one is the lesser", y.best(false), 4);
        edges.hand(y, 4, 4);
        edges.of("21: of a MEAN line by LOADS of all MAKES");
        StationLine z = Edges.shared(Edges.with(1, 1, 2), 1, 1, 0);
        z.time(0, 1, 3);
        z.line(Edges.MEAN);
        z.beat(3);
        edges.due("4, 2 + 3", z.best(true), 2);
        edges.hand(z, 1, 2, 2);
        z.line(Edges.LINE);
        edges.due("1 + 1, 2", z.best(true), 2);
        edges.hand(z, 1, 1, 2);
    }

    private static void evenestFromLeastToMost() {
        edges.of("22: the least sum of squares; -1 without any");
        StationLine x = Edges.shared(Edges.tenOf(100), 9, 9, 9);
        x.beat(1000);
        long[] one = {1000000, 1000000, 729000000, 1000000};
        for (int kind = 0; kind < 4; kind++) {
            x.line(kind);
            edges.due("all at one, KIND " + kind, x.evenest(), one[kind]);
        }
        x.beat(999);
        long[] two = {500000, 500000, 364500000, 500000};
        for (int kind = 0; kind < 4; kind++) {
            x.line(kind);
            edges.due("five and five, KIND " + kind, x.evenest(), two[kind]);
        }
        x.beat(100);
        edges.due("one at each", x.evenest(), 100000);
        x.beat(99);
        edges.due("none", x.evenest(), -1);
        StationLine y = Edges.with(1);
        y.beat(1);
        edges.due("one task", y.evenest(), 1);
        edges.of("22: stations without tasks add nothing");
        StationLine z = Edges.with(5, 6);
        z.hold(1, 10);
        edges.due("25 + 36", z.evenest(), 61);
        z.beat(11);
        edges.due("apart is evener", z.evenest(), 61);
        z.pair(0, 1, 1);
        edges.due("11 at 10", z.evenest(), 121);
        z.hold(0, 1);
        edges.due("TOGETHER, HELD at two", z.evenest(), -1);
        z.pair(0, 1, 0);
        edges.due("at 1 and at 10", z.evenest(), 61);
    }

    private static void leastBeatFromOneToThousand() {
        edges.of("23: the least BEAT, 1 to 1000");
        StationLine x = Edges.tenOf(100);
        edges.due("the greatest", x.leastBeat(1), 1000);
        edges.due("for 9", x.leastBeat(9), 200);
        edges.due("for 10", x.leastBeat(10), 100);
        StationLine y = Edges.tenOf(1);
        edges.due("for 1", y.leastBeat(1), 10);
        edges.due("for 5", y.leastBeat(5), 2);
        edges.due("for 9", y.leastBeat(9), 2);
        edges.due("the least", y.leastBeat(10), 1);
        edges.due("m 0", y.leastBeat(0), Edges.BAD);
        edges.due("m 11", y.leastBeat(11), Edges.BAD);
        edges.of("23: a LENGTH of m at most");
        StationLine z = Edges.with(7);
        for (int m = 1; m <= 10; m++) {
            edges.due("one task, m " + m, z.leastBeat(m), 7);
        }
        edges.of("23: the BEAT of now doesn't count");
        StationLine w = Edges.with(5, 6);
        for (int beat : new int[] {1, 5, 11, 1000}) {
            w.beat(beat);
            edges.due("for 1", w.leastBeat(1), 11);
            edges.due("for 2", w.leastBeat(2), 6);
            edges.due("it stays", w.count(4), beat);
        }
    }

    private static void leastBeatByHolds() {
        edges.of("23: NONE");
        StationLine x = Edges.with(3, 4);
        for (int k = 1; k <= 10; k++) {
            x.hold(1, k);
            for (int m = 1; m <= 10; m++) {
                int due = m < k ? Edges.NONE : m == 1 ? 7 : 4;
                edges.due("HELD " + k + ", m " + m, x.leastBeat(m), due);
            }
        }
        x.hold(1, 0);
        x.pair(0, 1, 2);
        edges.due("APART, m 1", x.leastBeat(1), Edges.NONE);
        edges.due("APART, m 2", x.leastBeat(2), 4);
        x.pair(0, 1, 1);
        edges.due("TOGETHER, m 10", x.leastBeat(10), 7);
        x.hold(0, 1);
        x.hold(1, 2);
        edges.due("TOGETHER and HELD at two", x.leastBeat(10), Edges.NONE);
        x.pair(0, 1, 0);
        x.ahead(1, 0);
        edges.due("AHEAD and HELD later", x.leastBeat(10), Edges.NONE);
        x.line(Edges.BENT);
        edges.due("bent", x.leastBeat(2), 4);
    }

    private static void leastBeatByKind() {
        edges.of("23: ROOM by KIND");
        StationLine x = Edges.shared(Edges.tenOf(100), 9, 9, 9);
        for (int kind = 0; kind < 4; kind++) {
            x.line(kind);
            edges.due("the greatest, KIND " + kind, x.leastBeat(1), 1000);
            edges.due("for 10, KIND " + kind, x.leastBeat(10), 100);
        }
        StationLine y = Edges.shared(Edges.with(4), 1, 1, 1);
        y.line(Edges.MEAN);
        edges.due("6 by 3", y.leastBeat(1), 2);
        y.time(0, 1, 2);
        edges.due("7 by 3, taken up", y.leastBeat(1), 3);
        y.time(0, 1, 4);
        edges.due("9 by 3", y.leastBeat(1), 3);
        y.line(Edges.EACH);
        y.time(0, 1, 5);
        edges.due("the greatest of 4, 5, 1", y.leastBeat(1), 5);
        y.share(1, 0);
        edges.due("without make 1", y.leastBeat(1), 4);
        StationLine z = Edges.with(1);
        z.line(Edges.MEAN);
        edges.due("the least", z.leastBeat(1), 1);
        edges.of("23: the sums of an EACH line");
        StationLine w = Edges.shared(Edges.with(9, 1), 1, 1, 0);
        w.time(1, 1, 9);
        w.line(Edges.EACH);
        edges.due("for 1", w.leastBeat(1), 10);
        edges.due("for 2", w.leastBeat(2), 9);
    }

    private static void searchesLeaveTheBench() {
        edges.of("19, 20, 22, 23: what only tells changes nothing");
        StationLine x = Edges.with(5, 5, 5);
        Edges.putAll(x, 0, 3, 10);
        edges.due("fewest", x.fewest(), 2);
        edges.due("many", x.many(), 6);
        edges.due("evenest", x.evenest(), 125);
        edges.due("leastBeat", x.leastBeat(2), 10);
        edges.hand(x, 0, 3, 10);
        edges.due("BEAT", x.count(4), 10);
        edges.due("findings", x.count(2), 0);
    }
}

/** The boundary cases that promises 1 to 12 name, the answers worked out by hand. */
public final class EdgeTaskTest {
    private static final Edges edges = new Edges("EdgeTaskTest");

    public static void main(String[] args) {
        newObject();
        tenTasks();
        timesFromOneToHundred();
        oneShareStaysAboveNought();
        aheadOfNineOthers();
        ringsFromOneToTen();
        fewestRing();
        fewestRingOfMany();
        ringAfterFree();
        freeOpensTheWay();
        pairsAreOneOfThree();
        pairsOfAllTen();
        holdsFromNoneToTen();
        kindsChangeLoads();
        roomFromOneToMost();
        loadsFromOneToMost();
        eachGoesBySharesAboveNought();
        edges.end();
    }

    private static void newObject() {
        edges.of("1: no tasks, a LINE, BEAT 10, SHEETS MISSING, nothing kept");
        StationLine x = new StationLine();
        int[] counts = {0, 0, 0, 0, 10, 10};
        for (int what = 0; what < 6; what++) {
            edges.due("count " + what, x.count(what), counts[what]);
        }
        for (int s = 0; s < 4; s++) {
            edges.due("write", x.write(s, 0, 1), Edges.NOTHING);
            edges.due("take", x.take(0, s, 0, 0), Edges.NOTHING);
            edges.due("lose", x.lose(s), 0);
        }
        edges.due("back", x.back(), Edges.NOTHING);
        for (int k = 1; k <= 10; k++) {
            edges.due("set at " + k, x.station(k, 0), 0);
            edges.due("load at " + k, x.station(k, 1), 0);
            edges.due("room at " + k, x.station(k, 2), 10);
        }
        edges.of("1: SHARES are 1, 0, 0 at first");
        StationLine y = new StationLine();
        edges.due("share 2", y.share(2, 0), 0);
        edges.due("share 1", y.share(1, 0), 0);
        edges.due("share 0", y.share(0, 0), Edges.BAD);
        edges.due("share 0", y.share(0, 1), 1);
    }

    private static void tenTasks() {
        edges.of("2: 10 tasks at most");
        StationLine x = new StationLine();
        for (int t = 0; t < 10; t++) {
            edges.due("not yet there", x.of(t, 0), Edges.BAD);
            edges.due("task", x.task(), t);
            edges.due("count", x.count(0), t + 1);
            for (int make = 0; make < 3; make++) {
                edges.due("TIME is 1 at first", x.of(t, make), 1);
            }
            for (int what = 3; what < 8; what++) {
                edges.due("of " + what + " at first", x.of(t, what), 0);
            }
        }
        edges.due("task", x.task(), Edges.BAD);
        edges.due("again", x.task(), Edges.BAD);
        edges.due("count", x.count(0), 10);
        edges.due("task 10", x.of(10, 0), Edges.BAD);
    }

    private static void timesFromOneToHundred() {
        edges.of("3: 1 .. 100");
        StationLine x = Edges.tenOf(50);
        edges.due("to 1", x.time(9, 2, 1), 50);
        edges.due("to 100", x.time(9, 2, 100), 1);
        edges.due("0", x.time(9, 2, 0), Edges.BAD);
        edges.due("101", x.time(9, 2, 101), Edges.BAD);
        edges.due("what it was", x.time(9, 2, 100), 100);
        edges.due("another make", x.of(9, 1), 50);
        edges.due("another task", x.of(8, 2), 50);
    }

    private static void oneShareStaysAboveNought() {
        edges.of("4: one at least is above 0");
        StationLine x = new StationLine();
        edges.due("the only one", x.share(0, 0), Edges.BAD);
        for (int make = 0; make < 3; make++) {
            int next = (make + 1) % 3;
            edges.due("raised", x.share(next, 1), 0);
            edges.due("lowered", x.share(make, 0), 1);
            edges.due("none of the two others", x.share(next, 0), Edges.BAD);
            edges.due("nought for nought", x.share((make + 2) % 3, 0), 0);
        }
        edges.due("to 9", x.share(0, 9), 1);
        edges.due("10", x.share(0, 10), Edges.BAD);
        edges.due("-1", x.share(0, -1), Edges.BAD);
        edges.due("stays", x.share(0, 9), 9);
        edges.due("the lowest two may go", x.share(1, 9) + x.share(2, 9) + x.share(0, 0), 9);
    }

    private static void aheadOfNineOthers() {
        edges.of("5: ahead");
        StationLine x = Edges.tenOf(1);
        for (int t = 1; t < 10; t++) {
            edges.due("new", x.ahead(0, t), 1);
            edges.due("already", x.ahead(0, t), 0);
        }
        edges.due("FOLLOWING 0", x.of(0, 5), 1022);
        edges.due("LEADING 9", x.of(9, 4), 1);
        for (int t = 1; t < 10; t++) {
            edges.due("back", x.ahead(t, 0), Edges.RING);
        }
        edges.due("AHEAD of 0", x.of(0, 3), 0);
        for (int a = 1; a < 10; a++) {
            for (int b = a + 1; b < 10; b++) {
                edges.due("all pairs", x.ahead(a, b), 1);
            }
        }
        for (int t = 0; t < 10; t++) {
            edges.due("AHEAD of " + t, x.of(t, 3), (1 << t) - 1);
            edges.due("LEADING " + t, x.of(t, 4), (1 << t) - 1);
            edges.due("FOLLOWING " + t, x.of(t, 5), 1023 - (2 << t) + 1);
        }
        edges.of("5: LEADING and FOLLOWING, against the numbers");
        StationLine y = Edges.tenOf(1);
        for (int t = 9; t > 0; t--) {
            y.ahead(t, t - 1);
        }
        for (int t = 0; t < 10; t++) {
            edges.due("LEADING " + t, y.of(t, 4), 1023 - (2 << t) + 1);
            edges.due("FOLLOWING " + t, y.of(t, 5), (1 << t) - 1);
        }
        edges.of("5: BAD before RING");
        edges.due("no such task with itself", x.ahead(10, 10), Edges.BAD);
        edges.due("no such task with itself", x.ahead(-1, -1), Edges.BAD);
    }

    private static void ringsFromOneToTen() {
        edges.of("7: rings of one task to ten");
        for (int n = 1; n <= 10; n++) {
            StationLine x = Edges.chained(Edges.tenOf(1));
            edges.due("ring of " + n, x.ahead(n - 1, 0), Edges.RING);
            edges.due("k 0", x.ring(0), n - 1);
            for (int k = 1; k < n; k++) {
                edges.due("k " + k + " of " + n, x.ring(k), k - 1);
            }
            edges.due("k " + n, x.ring(n), Edges.NONE);
            edges.due("k -1", x.ring(-1), Edges.NONE);
        }
        edges.of("7: Edges.NONE, no ring yet");
        StationLine y = Edges.tenOf(1);
        y.ahead(0, 1);
        y.ahead(0, 1);
        y.ahead(10, 10);
        edges.due("k 0", y.ring(0), Edges.NONE);
    }

    private static void fewestRing() {
        edges.of("7: the fewest; of such the lesser task at the first that differs");
        StationLine x = Edges.tenOf(1);
        x.ahead(0, 9);
        x.ahead(9, 2);
        x.ahead(2, 5);
        x.ahead(0, 1);
        x.ahead(1, 8);
        x.ahead(8, 5);
        x.ahead(1, 7);
        x.ahead(7, 5);
        x.ahead(0, 3);
        x.ahead(3, 4);
        x.ahead(4, 6);
        x.ahead(6, 5);
        edges.due("ring", x.ahead(5, 0), Edges.RING);
        int[] want = {5, 0, 1, 7, Edges.NONE};
        for (int k = 0; k < 5; k++) {
            edges.due("k " + k, x.ring(k), want[k]);
        }
        edges.due("a short cut", x.ahead(9, 5), 1);
        edges.due("the ring that was told stays", x.ring(2), 1);
        edges.due("ring", x.ahead(5, 0), Edges.RING);
        edges.due("k 2", x.ring(2), 9);
        edges.due("k 3", x.ring(3), Edges.NONE);
    }

    private static void fewestRingOfMany() {
        edges.of("7: the lesser at the first that differs, not the lesser at the last");
        StationLine x = Edges.tenOf(1);
        int[][] links = {{9, 0}, {9, 1}, {9, 2}, {0, 7}, {1, 6}, {2, 3}, {7, 8}, {6, 8}, {3, 8}, {9, 4}, {4, 5}};
        for (int[] link : links) {
            x.ahead(link[0], link[1]);
        }
        edges.due("ring", x.ahead(8, 9), Edges.RING);
        ringIs(x, 8, 9, 0, 7);
        x.free(0, 7);
        x.ahead(8, 9);
        ringIs(x, 8, 9, 1, 6);
        x.free(1, 6);
        x.ahead(1, 3);
        x.ahead(8, 9);
        ringIs(x, 8, 9, 1, 3);
        x.ahead(4, 8);
        x.ahead(8, 9);
        ringIs(x, 8, 9, 4);
        x.ahead(9, 8);
        x.ahead(8, 9);
        ringIs(x, 8, 9);
        x.free(9, 8);
        x.free(9, 4);
        x.free(9, 1);
        x.free(9, 2);
        x.ahead(0, 5);
        x.ahead(5, 1);
        x.ahead(8, 9);
        ringIs(x, 8, 9, 0, 5, 1, 3);
    }

    private static void ringIs(StationLine x, int... want) {
        for (int k = 0; k < want.length; k++) {
            edges.due("k " + k, x.ring(k), want[k]);
        }
        edges.due("k " + want.length, x.ring(want.length), Edges.NONE);
    }

    private static void ringAfterFree() {
        edges.of("7: the latest that ahead() answered");
        StationLine x = Edges.chained(Edges.tenOf(1));
        x.ahead(3, 1);
        x.free(1, 2);
        edges.due("free leaves it", x.ring(2), 2);
        edges.due("ahead", x.ahead(3, 1), 1);
        edges.due("ahead that answers 1 leaves it", x.ring(0), 3);
        x.ahead(3, 1);
        x.ahead(99, 3);
        edges.due("0 and BAD leave it", x.ring(1), 1);
        edges.due("itself", x.ahead(4, 4), Edges.RING);
        edges.due("k 0", x.ring(0), 4);
        edges.due("k 1", x.ring(1), Edges.NONE);
    }

    private static void freeOpensTheWay() {
        edges.of("6: free");
        StationLine x = Edges.chained(Edges.tenOf(1));
        edges.due("not AHEAD, though LEADING", x.free(0, 9), 0);
        edges.due("the other way round", x.free(1, 0), 0);
        edges.due("itself", x.free(5, 5), 0);
        edges.due("was", x.free(4, 5), 1);
        edges.due("no more", x.free(4, 5), 0);
        edges.due("LEADING 9", x.of(9, 4), 0b0111100000);
        edges.due("FOLLOWING 0", x.of(0, 5), 0b0000011110);
        edges.due("now no RING", x.ahead(9, 0), 1);
        edges.due("but here", x.ahead(4, 5), Edges.RING);
        edges.of("6: free, two ways");
        StationLine y = Edges.with(1, 1, 1);
        y.ahead(0, 1);
        y.ahead(1, 2);
        y.ahead(0, 2);
        edges.due("the direct one", y.free(0, 2), 1);
        edges.due("still LEADING", y.of(2, 4), 3);
        edges.due("not AHEAD", y.of(2, 3), 2);
    }

    private static void pairsAreOneOfThree() {
        edges.of("8: what they were");
        StationLine x = Edges.with(1, 1, 1);
        for (int was = 0; was < 3; was++) {
            for (int how = 0; how < 3; how++) {
                x.pair(0, 2, was);
                edges.due("from " + was, x.pair(2, 0, how), was);
                edges.due("to " + how, x.pair(0, 2, how), how);
                edges.due("other pair", x.pair(0, 1, 0), 0);
                edges.due("one station", Edges.judged(x, 1, 1, 1), how == 2 ? 4 : 0);
                edges.due("two stations", Edges.judged(x, 1, 1, 2), how == 1 ? 3 : 0);
            }
        }
        edges.due("the same", x.pair(2, 2, 0), Edges.BAD);
    }

    private static void pairsOfAllTen() {
        edges.of("8: all pairs of ten");
        StationLine x = Edges.tenOf(1);
        for (int a = 0; a < 10; a++) {
            for (int b = 0; b < a; b++) {
                edges.due("apart", x.pair(a, b, 2), 0);
            }
        }
        edges.due("each for itself", x.fewest(), 10);
        edges.due("all orders", x.many(), 3628800);
        for (int a = 0; a < 10; a++) {
            for (int b = 0; b < a; b++) {
                edges.due("together", x.pair(b, a, 1), 2);
            }
        }
        edges.due("all at one", x.fewest(), 1);
        edges.due("one way", x.many(), 1);
        x.pair(9, 0, 2);
        edges.due("one pair apart", x.fewest(), Edges.NONE);
    }

    private static void holdsFromNoneToTen() {
        edges.of("9: 0 .. 10");
        StationLine x = Edges.with(1, 1);
        int was = 0;
        for (int k : new int[] {1, 10, 0, 5, 0}) {
            edges.due("where it was", x.hold(1, k), was);
            edges.due("of", x.of(1, 6), k);
            edges.due("at 10", Edges.judged(x, 10, 10), k == 0 || k == 10 ? 0 : 15);
            edges.due("at 1", Edges.judged(x, 1, 1), k == 0 || k == 1 ? 0 : 15);
            was = k;
        }
        edges.due("other task", x.of(0, 6), 0);
    }

    // ---- 10 to 12, 37: loads and room

    private static void kindsChangeLoads() {
        edges.of("10: what it was");
        StationLine x = new StationLine();
        int was = 0;
        for (int kind : new int[] {3, 0, 2, 1, 1, 3, 2, 0}) {
            edges.due("line", x.line(kind), was);
            edges.due("count", x.count(3), kind);
            was = kind;
        }
        edges.of("12: LOAD alone, by KIND");
        StationLine y = Edges.with(5);
        y.time(0, 1, 7);
        y.time(0, 2, 100);
        Edges.shared(y, 2, 3, 0);
        int[] loads = {5, 5, 31, 7};
        for (int kind = 0; kind < 4; kind++) {
            y.line(kind);
            edges.due("KIND " + kind, y.of(0, 8), loads[kind]);
        }
    }

    private static void roomFromOneToMost() {
        edges.of("11: 1 .. 1000");
        StationLine x = new StationLine();
        edges.due("to 1", x.beat(1), 10);
        edges.due("to 1000", x.beat(1000), 1);
        edges.due("0", x.beat(0), Edges.BAD);
        edges.due("1001", x.beat(1001), Edges.BAD);
        edges.due("stays", x.count(4), 1000);
        edges.of("37: ROOM");
        Edges.shared(x, 9, 9, 9);
        int[] rooms = {1000, 1000, 27000, 1000};
        for (int kind = 0; kind < 4; kind++) {
            x.line(kind);
            edges.due("KIND " + kind, x.count(5), rooms[kind]);
        }
        Edges.shared(x, 0, 0, 1);
        x.line(Edges.MEAN);
        x.beat(1);
        edges.due("the least", x.count(5), 1);
    }

    private static void loadsFromOneToMost() {
        edges.of("16: LOAD of none and of all");
        StationLine x = Edges.shared(Edges.tenOf(100), 9, 9, 9);
        Edges.putAll(x, 10, 10, 10, 10, 10, 10, 10, 10, 10, 10);
        x.beat(1);
        int[] loads = {1000, 1000, 27000, 1000};
        int[] left = {-999, -999, -26973, -999};
        for (int kind = 0; kind < 4; kind++) {
            x.line(kind);
            edges.due("set", x.station(10, 0), 1023);
            edges.due("KIND " + kind, x.station(10, 1), loads[kind]);
            edges.due("ROOM less that", x.station(10, 2), left[kind]);
            edges.due("none", x.station(9, 1), 0);
            edges.due("ROOM less none", x.station(9, 2), x.count(5));
        }
    }

    private static void eachGoesBySharesAboveNought() {
        edges.of("12: EACH, a MAKE whose SHARE is above 0");
        StationLine x = Edges.with(1, 1);
        x.time(0, 1, 60);
        x.time(0, 2, 90);
        x.time(1, 2, 1);
        x.line(Edges.EACH);
        edges.due("make 0 alone", x.of(0, 8), 1);
        x.share(1, 1);
        edges.due("makes 0 and 1", x.of(0, 8), 60);
        x.share(2, 9);
        edges.due("all, a greater share counts no more", x.of(0, 8), 90);
        x.share(1, 0);
        x.share(2, 0);
        edges.due("make 0 again", x.of(0, 8), 1);
        x.share(2, 1);
        x.share(0, 0);
        edges.due("make 2 alone", x.of(1, 8), 1);
        edges.of("12: a LINE and a BENT one go by MAKE 0, whatever its SHARE");
        x.line(Edges.LINE);
        edges.due("line", x.of(0, 8), 1);
        x.line(Edges.BENT);
        edges.due("bent", x.of(0, 8), 1);
    }
}

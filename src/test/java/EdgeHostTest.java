import java.util.Arrays;

/** The boundary cases that promises 29 to 37 name, the answers worked out by hand. */
public final class EdgeHostTest {
    private static final Edges edges = new Edges("EdgeHostTest");
    private static final int LOW = Integer.MIN_VALUE;
    private static final int HIGH = Integer.MAX_VALUE;

    public static void main(String[] args) {
        sheetOfNoneAndForty();
        sheetIsLaidAnew();
        writesByPlace();
        narrowing();
        takeBringsIntoRange();
        takeOfNarrowedNumbers();
        takeUpToTheLastPlace();
        takeFindsInOrder();
        takeWithoutTasks();
        loseAtTheEdge();
        twentyWait();
        checkAtTheEdge();
        checkByTaskAndCause();
        checkOfNone();
        keepAtTheEdge();
        backToFewerTasks();
        backBringsAll();
        backLeavesTheRest();
        countAtTheEdge();
        findingsOfTheHost();
        edges.end();
    }

    private static void sheetOfNoneAndForty() {
        edges.of("29: a row of n numbers, all 0");
        StationLine x = new StationLine();
        for (int sort = 0; sort < 3; sort++) {
            edges.due("none", x.sheet(sort, sort, 0), 0);
            edges.due("it has no place 0", x.write(sort, 0, 1), Edges.PLACE);
            edges.due("one", x.sheet(sort, sort, 1), 1);
            edges.due("place 0", x.write(sort, 0, 1), 0);
            edges.due("it has no place 1", x.write(sort, 1, 1), Edges.PLACE);
            edges.due("forty", x.sheet(sort, sort, 40), 40);
            for (int i = 0; i < 40; i++) {
                edges.due("all 0", x.write(sort, i, i + 1), 0);
            }
            for (int i = 0; i < 40; i++) {
                edges.due("each its own", x.write(sort, i, 0), i + 1);
            }
            edges.due("it has no place 40", x.write(sort, 40, 1), Edges.PLACE);
        }
        edges.due("forty-one", x.sheet(3, 0, 41), Edges.BAD);
        edges.due("below 0", x.sheet(3, 0, -1), Edges.SIZE);
        edges.due("still MISSING", x.lose(3), 0);
    }

    private static void sheetIsLaidAnew() {
        edges.of("29: a SHEET that was there is laid anew");
        StationLine x = Edges.with(1);
        x.sheet(0, 2, 40);
        x.write(0, 0, 70);
        x.write(0, 39, 70);
        edges.due("forty-one", x.sheet(0, 0, 41), Edges.BAD);
        edges.due("below 0", x.sheet(0, 0, -1), Edges.SIZE);
        edges.due("a refused one leaves its SORT and numbers", x.take(0, 0, 2, 0), 0);
        edges.due("time", x.of(0, 0), 70);
        edges.due("as bytes", x.sheet(0, 0, 5), 5);
        edges.due("all 0", x.write(0, 0, 1), 0);
        edges.due("place 5 is gone", x.write(0, 5, 1), Edges.PLACE);
        edges.due("its SORT is another", x.take(0, 0, 2, 0), Edges.SORT);
        edges.due("the new one", x.take(0, 0, 0, 0), 0);
        edges.due("longer again", x.sheet(0, 2, 40), 40);
        edges.due("nothing comes back", x.write(0, 39, 1), 0);
        x.lose(0);
        edges.due("after it was lost", x.sheet(0, 2, 40), 40);
        edges.due("nothing comes back", x.write(0, 39, 1), 0);
    }

    private static void writesByPlace() {
        edges.of("30: what it was");
        StationLine x = new StationLine();
        x.sheet(3, 2, 2);
        edges.due("first", x.write(3, 0, HIGH), 0);
        edges.due("last", x.write(3, 1, LOW), 0);
        edges.due("first", x.write(3, 0, 0), HIGH);
        edges.due("last", x.write(3, 1, 0), LOW);
        edges.due("a refused place", x.write(3, 2, 9) + x.write(3, -1, 9), 2 * Edges.PLACE);
        edges.due("wrote nothing", x.write(3, 0, 0) + x.write(3, 1, 0), 0);
        edges.of("30: a number that looks like a finding is none");
        x.write(3, 0, Edges.NOTHING);
        edges.due("-10", x.write(3, 0, 0), -10);
        edges.due("findings", x.count(2), 2);
    }

    private static void narrowing() {
        edges.of("30: narrowed to its SORT");
        int[] told = {127, 128, -128, -129, 255, 256, 257, -256, 32767, 32768, -32768, -32769, 65535, 65536,
            65537, 0x7fffff80, HIGH, LOW};
        int[] bytes = {127, -128, -128, 127, -1, 0, 1, 0, -1, 0, 0, -1, -1, 0, 1, -128, -1, 0};
        int[] shorts = {127, 128, -128, -129, 255, 256, 257, -256, 32767, -32768, -32768, 32767, -1, 0, 1, -128, -1, 0};
        StationLine x = new StationLine();
        for (int sort = 0; sort < 3; sort++) {
            x.sheet(sort, sort, 40);
        }
        for (int i = 0; i < told.length; i++) {
            for (int s = 0; s < 3; s++) {
                x.write(s, 39, told[i]);
            }
            edges.due("byte of " + told[i], x.write(0, 39, 0), bytes[i]);
            edges.due("short of " + told[i], x.write(1, 39, 0), shorts[i]);
            edges.due("int of " + told[i], x.write(2, 39, 0), told[i]);
        }
    }

    private static void takeBringsIntoRange() {
        edges.of("31: those below 1 being 1, those above 100 being 100: how many were so");
        int[] told = {1, 100, 0, 101, -1, 127, -128, 2, 99, 50};
        int[] times = {1, 100, 1, 100, 1, 100, 1, 2, 99, 50};
        for (int sort = 0; sort < 3; sort++) {
            StationLine x = Edges.tenOf(7);
            x.sheet(sort, sort, 10);
            for (int i = 0; i < 10; i++) {
                x.write(sort, i, told[i]);
            }
            edges.due("five of ten", x.take(1, sort, sort, 0), 5);
            for (int t = 0; t < 10; t++) {
                edges.due("taken", x.of(t, 1), times[t]);
                edges.due("other make", x.of(t, 0), 7);
                edges.due("other make", x.of(t, 2), 7);
            }
            edges.due("the sheet stays", x.write(sort, 3, 0), 101);
        }
        edges.of("31: none and all");
        StationLine y = Edges.tenOf(7);
        y.sheet(0, 2, 40);
        edges.due("all are 0", y.take(0, 0, 2, 30), 10);
        for (int i = 0; i < 40; i++) {
            y.write(0, i, i % 2 == 0 ? HIGH : LOW);
        }
        edges.due("all are far", y.take(0, 0, 2, 0), 10);
        edges.due("far above", y.of(0, 0), 100);
        edges.due("far below", y.of(1, 0), 1);
        for (int i = 0; i < 40; i++) {
            y.write(0, i, i % 2 == 0 ? 1 : 100);
        }
        edges.due("none", y.take(0, 0, 2, 0), 0);
    }

    private static void takeOfNarrowedNumbers() {
        edges.of("31: the number as the SORT narrowed it");
        StationLine x = Edges.with(9);
        int[] told = {128, 356, 65536 + 42, 40000};
        int[][] times = {{1, 100, 42, 64}, {100, 100, 42, 1}, {100, 100, 100, 100}};
        int[][] out = {{1, 0, 0, 0}, {1, 1, 0, 1}, {1, 1, 1, 1}};
        for (int sort = 0; sort < 3; sort++) {
            x.sheet(0, sort, 4);
            for (int i = 0; i < 4; i++) {
                x.write(0, i, told[i]);
                edges.due("SORT " + sort + " of " + told[i], x.take(0, 0, sort, i), out[sort][i]);
                edges.due("time", x.of(0, 0), times[sort][i]);
            }
        }
    }

    private static void takeUpToTheLastPlace() {
        edges.of("31: PLACE, it has not so many from place i on");
        for (int n = 1; n <= 10; n++) {
            StationLine x = new StationLine();
            for (int t = 0; t < n; t++) {
                x.task();
            }
            x.sheet(0, 1, 40);
            x.sheet(1, 1, n);
            x.sheet(2, 1, n - 1);
            x.write(0, 39, 55);
            edges.due("the last place", x.take(0, 0, 1, 40 - n), n - 1);
            edges.due("the last task", x.of(n - 1, 0), 55);
            edges.due("one beyond", x.take(0, 0, 1, 41 - n), Edges.PLACE);
            edges.due("one below", x.take(0, 0, 1, -1), Edges.PLACE);
            edges.due("just as many", x.take(1, 1, 1, 0), n);
            edges.due("one beyond", x.take(1, 1, 1, 1), Edges.PLACE);
            edges.due("one too few", x.take(1, 2, 1, 0), Edges.PLACE);
            edges.due("far", x.take(1, 0, 1, HIGH), Edges.PLACE);
            edges.due("far", x.take(1, 0, 1, LOW), Edges.PLACE);
            edges.due("far", x.take(1, 0, 1, HIGH - n + 1), Edges.PLACE);
            edges.due("a refused one takes none", x.of(n - 1, 0), 55);
        }
    }

    private static void takeFindsInOrder() {
        edges.of("31: BAD, NOTHING, SORT, PLACE");
        StationLine x = Edges.with(9, 9);
        x.sheet(1, 1, 1);
        edges.due("no such make, MISSING", x.take(3, 0, 0, -1), Edges.BAD);
        edges.due("no such sheet", x.take(0, 4, 0, -1), Edges.BAD);
        edges.due("no such sort, MISSING", x.take(0, 0, 3, -1), Edges.BAD);
        edges.due("no such sort, there", x.take(0, 1, 3, -1), Edges.BAD);
        edges.due("MISSING, no place", x.take(0, 0, 0, -1), Edges.NOTHING);
        edges.due("another sort, no place", x.take(0, 1, 0, -1), Edges.SORT);
        edges.due("another sort, no place", x.take(0, 1, 2, 5), Edges.SORT);
        edges.due("no place", x.take(0, 1, 1, 0), Edges.PLACE);
        edges.due("findings", x.count(2), 4);
        edges.due("nothing was taken", x.of(0, 0) + x.of(1, 0), 18);
    }

    private static void takeWithoutTasks() {
        edges.of("31: without tasks any i will do");
        StationLine x = new StationLine();
        x.sheet(0, 0, 0);
        for (int i : new int[] {0, 1, -1, 40, LOW, HIGH}) {
            edges.due("place " + i, x.take(2, 0, 0, i), 0);
        }
        edges.due("another sort", x.take(2, 0, 1, 0), Edges.SORT);
        edges.due("MISSING", x.take(2, 1, 0, 0), Edges.NOTHING);
        edges.due("no such make", x.take(3, 0, 0, 0), Edges.BAD);
        edges.due("findings", x.count(2), 2);
        x.task();
        edges.due("with one task", x.take(2, 0, 0, 0), Edges.PLACE);
    }

    private static void loseAtTheEdge() {
        edges.of("32: 1 if it was there, else 0");
        StationLine x = Edges.with(5);
        for (int s = 0; s < 4; s++) {
            edges.due("at first", x.lose(s), 0);
            x.sheet(s, 0, s == 0 ? 0 : 40);
            edges.due("there", x.lose(s), 1);
            edges.due("no more", x.lose(s), 0);
            edges.due("write", x.write(s, 0, 1), Edges.NOTHING);
            edges.due("take", x.take(0, s, 0, 0), Edges.NOTHING);
        }
        x.sheet(1, 0, 1);
        x.sheet(2, 0, 1);
        x.lose(1);
        edges.due("the others stay", x.lose(2), 1);
        edges.due("a MISSING one is no finding to lose", x.count(2), 8);
    }

    private static void twentyWait() {
        edges.of("33: BAD, 20 wait");
        StationLine x = new StationLine();
        for (int round = 0; round < 3; round++) {
            for (int i = 1; i <= 20; i++) {
                edges.due("any number", x.tell(i % 3 == 0 ? HIGH : i % 3 == 1 ? LOW : 0), i);
                edges.due("count", x.count(1), i);
            }
            edges.due("one more", x.tell(0), Edges.BAD);
            edges.due("count", x.count(1), 20);
            edges.due("not as many as tasks", x.check(), Edges.BAD);
            edges.due("none do then", x.count(1), 0);
        }
        edges.due("BAD is no finding of the host", x.count(2), 0);
    }

    private static void checkAtTheEdge() {
        edges.of("34: BAD, not as many as tasks");
        StationLine x = Edges.tenOf(1);
        for (int told = 0; told <= 20; told++) {
            int[] row = new int[told];
            Arrays.fill(row, 5);
            edges.due(told + " of ten", Edges.judged(x, row), told == 10 ? 0 : Edges.BAD);
            edges.due("none wait then", x.count(1), 0);
        }
        edges.of("34: BAD, one is not 0 .. 10");
        for (int t = 0; t < 10; t++) {
            StationLine y = Edges.tenOf(1);
            int[] row = new int[10];
            Arrays.fill(row, 5);
            row[t] = 10;
            edges.due("10", Edges.judged(y, row), 0);
            row[t] = 11;
            edges.due("11", Edges.judged(y, row), Edges.BAD);
            row[t] = 0;
            edges.due("0", Edges.judged(y, row), 10 * t + 1);
            row[t] = -1;
            edges.due("-1", Edges.judged(y, row), Edges.BAD);
            edges.due("none wait then", y.count(1), 0);
        }
        edges.of("34: BAD is asked before any CAUSE");
        edges.due("a CAUSE first, 11 last", Edges.judged(x, 0, 1, 1, 1, 1, 1, 1, 1, 1, 11), Edges.BAD);
        edges.of("34: what waited before is not seen again");
        Edges.judged(x, 3, 3, 3);
        edges.due("too few again", Edges.judged(x, 3, 3, 3, 3, 3, 3, 3), Edges.BAD);
    }

    private static void checkByTaskAndCause() {
        edges.of("34: 10 times the least task that has a CAUSE, and that CAUSE");
        StationLine x = Edges.with(6, 4, 1);
        edges.due("1", Edges.judged(x, 0, 1, 1), 1);
        edges.due("1, of the last", Edges.judged(x, 1, 1, 0), 21);
        edges.due("just ROOM", Edges.judged(x, 1, 1, 2), 0);
        edges.due("2", Edges.judged(x, 1, 1, 1), 2);
        x.pair(1, 2, 1);
        edges.due("3", Edges.judged(x, 1, 2, 3), 13);
        edges.due("TOGETHER with none", Edges.judged(x, 1, 2, 0), 13);
        x.pair(1, 2, 2);
        edges.due("4", Edges.judged(x, 1, 2, 2), 14);
        x.hold(2, 10);
        edges.due("5", Edges.judged(x, 1, 2, 3), 25);
        x.ahead(2, 1);
        edges.due("6", Edges.judged(x, 1, 9, 10), 16);
        edges.due("4 before 6", Edges.judged(x, 1, 10, 10), 14);
        x.pair(1, 2, 0);
        edges.due("RIGHT", Edges.judged(x, 1, 10, 10), 0);
        edges.of("34: THE HAND stays");
        edges.hand(x, 0, 0, 0);
        Edges.putAll(x, 2, 3, 4);
        Edges.judged(x, 1, 10, 10);
        edges.hand(x, 2, 3, 4);
        StationLine y = Edges.chained(Edges.tenOf(1));
        edges.due("the greatest answer", Edges.judged(y, 2, 2, 2, 2, 2, 2, 2, 2, 2, 1), 96);
        y.line(Edges.BENT);
        edges.due("bent", Edges.judged(y, 2, 2, 2, 2, 2, 2, 2, 2, 2, 1), 0);
    }

    private static void checkOfNone() {
        edges.of("34: without tasks");
        StationLine x = new StationLine();
        edges.due("no number", x.check(), 0);
        edges.due("one number", Edges.judged(x, 0), Edges.BAD);
        edges.due("no number again", x.check(), 0);
        edges.of("34: no number waits, one task");
        StationLine y = Edges.with(1);
        edges.due("check", y.check(), Edges.BAD);
        edges.due("findings", y.count(2), 0);
    }

    private static void keepAtTheEdge() {
        edges.of("35: how many tasks");
        StationLine x = new StationLine();
        for (int n = 0; n <= 10; n++) {
            edges.due("keep", x.keep(), n);
            edges.due("back", x.back(), n);
            x.task();
        }
        edges.of("35: the latest is kept");
        x.beat(20);
        x.keep();
        x.beat(30);
        edges.due("back", x.back(), 10);
        edges.due("BEAT", x.count(4), 20);
        edges.of("36: NOTHING, nothing is kept");
        StationLine y = Edges.tenOf(1);
        edges.due("back", y.back(), Edges.NOTHING);
        edges.due("tasks stay", y.count(0), 10);
        edges.due("counted", y.count(2), 1);
    }

    private static void backToFewerTasks() {
        edges.of("36: from ten tasks to none");
        StationLine x = new StationLine();
        x.keep();
        for (int t = 0; t < 10; t++) {
            x.task();
            x.time(t, 0, 90);
            x.hold(t, 10);
            x.put(t, 10);
            x.ahead(0, t);
            x.pair(t, 0, 2);
        }
        edges.due("back", x.back(), 0);
        edges.due("LENGTH", x.length(), 0);
        edges.due("squares", x.squares(), 0);
        edges.due("fewest", x.fewest(), 0);
        edges.due("check", x.check(), 0);
        edges.due("of", x.of(0, 0), Edges.BAD);
        edges.of("36: tasks that come anew are new");
        for (int t = 0; t < 10; t++) {
            edges.due("task", x.task(), t);
            for (int what = 0; what < 9; what++) {
                edges.due("of " + what, x.of(t, what), what < 3 || what == 8 ? 1 : 0);
            }
            edges.due("pair", t == 0 ? 0 : x.pair(t, 0, 0), 0);
            edges.due("free", x.free(0, t), 0);
        }
        edges.due("still kept", x.back(), 0);
    }

    private static void backBringsAll() {
        edges.of("36: they are as they were kept");
        StationLine x = Edges.tenOf(3);
        Edges.chained(x);
        x.time(9, 2, 100);
        x.time(0, 0, 1);
        x.time(0, 1, 2);
        x.pair(0, 9, 2);
        x.pair(0, 1, 1);
        x.hold(9, 10);
        x.line(Edges.EACH);
        x.beat(1000);
        Edges.putAll(x, 1, 1, 2, 3, 4, 5, 6, 7, 8, 10);
        edges.due("RIGHT", x.clash(), -1);
        edges.due("keep", x.keep(), 10);
        for (int round = 0; round < 2; round++) {
            edges.due("free", x.free(8, 9), 1);
            edges.due("ahead", x.ahead(9, 0), 1);
            edges.due("time", x.time(9, 2, 1), 100);
            edges.due("time", x.time(0, 0, 50), 1);
            edges.due("time", x.time(0, 1, 50), 2);
            edges.due("pair", x.pair(9, 0, 0), 2);
            edges.due("pair", x.pair(1, 0, 2), 1);
            edges.due("hold", x.hold(9, 0), 10);
            edges.due("hold", x.hold(0, 1), 0);
            edges.due("line", x.line(Edges.BENT), Edges.EACH);
            edges.due("beat", x.beat(1), 1000);
            edges.due("put", x.put(9, 0), 10);
            edges.due("back", x.back(), 10);
            edges.due("RIGHT", x.clash(), -1);
            edges.due("LEADING", x.of(9, 4), 511);
            edges.due("FOLLOWING", x.of(0, 5), 1022);
            edges.due("not HELD", x.of(0, 6), 0);
        }
    }

    private static void backLeavesTheRest() {
        edges.of("36: SHARES, SHEETS, what waits, findings, the RING are not kept");
        StationLine x = Edges.with(1, 1);
        x.ahead(0, 1);
        x.keep();
        x.share(1, 9);
        x.sheet(3, 2, 1);
        x.write(3, 0, 77);
        x.write(3, 1, 77);
        x.tell(4);
        x.ahead(1, 0);
        edges.due("back", x.back(), 2);
        edges.due("share", x.share(1, 9), 9);
        edges.due("sheet", x.write(3, 0, 0), 77);
        edges.due("waiting", x.count(1), 1);
        edges.due("findings", x.count(2), 1);
        edges.due("ring", x.ring(0), 1);
    }

    private static void countAtTheEdge() {
        edges.of("37: how many");
        StationLine x = new StationLine();
        edges.due("without anything", x.count(0) + x.count(1) + x.count(2) + x.count(3), 0);
        StationLine y = Edges.shared(Edges.tenOf(1), 9, 9, 9);
        for (int i = 0; i < 20; i++) {
            y.tell(i);
        }
        y.line(Edges.MEAN);
        y.beat(1000);
        y.back();
        int[] due = {10, 20, 1, 2, 1000, 27000};
        for (int what = 0; what < 6; what++) {
            edges.due("count " + what, y.count(what), due[what]);
        }
        edges.due("6", y.count(6), Edges.BAD);
        edges.due("-1", y.count(-1), Edges.BAD);
    }

    private static void findingsOfTheHost() {
        edges.of("37: NOTHING, PLACE, SORT, SIZE ever");
        StationLine x = Edges.with(1);
        edges.due("write NOTHING", x.write(0, 0, 0), Edges.NOTHING);
        edges.due("1", x.count(2), 1);
        edges.due("take NOTHING", x.take(0, 0, 0, 0), Edges.NOTHING);
        edges.due("2", x.count(2), 2);
        edges.due("back NOTHING", x.back(), Edges.NOTHING);
        edges.due("3", x.count(2), 3);
        x.sheet(0, 0, 0);
        edges.due("write PLACE", x.write(0, 0, 0), Edges.PLACE);
        edges.due("4", x.count(2), 4);
        edges.due("take PLACE", x.take(0, 0, 0, 0), Edges.PLACE);
        edges.due("5", x.count(2), 5);
        edges.due("take SORT", x.take(0, 0, 1, 0), Edges.SORT);
        edges.due("6", x.count(2), 6);
        edges.due("sheet SIZE", x.sheet(0, 0, -1), Edges.SIZE);
        edges.due("7", x.count(2), 7);
        edges.of("37: BAD, RING, NONE and -1 don't count");
        x.beat(0);
        x.ahead(0, 0);
        x.ring(9);
        x.time(0, 0, 11);
        x.fewest();
        x.evenest();
        x.rule(0);
        x.better();
        x.best(true);
        x.check();
        x.sheet(0, 0, 41);
        edges.due("7", x.count(2), 7);
        x.keep();
        x.write(0, 0, 0);
        x.back();
        edges.due("back takes none away", x.count(2), 8);
        for (int i = 0; i < 400; i++) {
            x.write(0, 1, 1);
        }
        edges.due("400 more", x.count(2), 408);
    }
}

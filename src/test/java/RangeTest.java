import java.util.ArrayList;
import java.util.List;
import java.util.function.Supplier;

/**
 * Each argument of each call: all values that are taken, the first that are refused on both sides
 * and the farthest ones; and that a refused call changes nothing that can be seen.
 */
public final class RangeTest {
    private static final int BAD = -2;
    private static final int RING = -3;
    private static final int NONE = -4;
    private static final int NOTHING = -10;
    private static final int PLACE = -11;
    private static final int SORT = -12;
    private static final int SIZE = -13;

    /** A call with one of its arguments left open. */
    private interface Call {
        long on(StationLine x, int v);
    }

    private static final List<String> wrong = new ArrayList<>();
    private static int asked = 0;

    public static void main(String[] args) {
        taskCalls();
        taskArguments();
        numberArguments();
        handArguments();
        searchArguments();
        sheetArguments();
        takeArguments();
        withoutTasks();
        toldCalls();
        orderOfFindings();
        for (String row : wrong) {
            System.out.println(row);
        }
        System.out.println("RangeTest: " + asked + " answers, " + wrong.size() + " wrong");
        if (!wrong.isEmpty()) {
            System.exit(1);
        }
    }

    private static void must(boolean holds, String what) {
        asked++;
        if (!holds) {
            wrong.add("RangeTest: " + what);
        }
    }

    // ---- benches

    private static StationLine bare() {
        return new StationLine();
    }

    private static StationLine one() {
        StationLine x = new StationLine();
        x.task();
        x.put(0, 4);
        x.tell(3);
        return x;
    }

    private static StationLine ten() {
        return told(10);
    }

    /** Something of everything, so many numbers that wait, and what is kept is not what is there. */
    private static StationLine told(int waiting) {
        StationLine x = new StationLine();
        x.task();
        x.task();
        x.ahead(0, 1);
        x.pair(0, 1, 1);
        x.hold(1, 6);
        x.put(0, 5);
        x.beat(77);
        x.keep();
        for (int t = 2; t < 10; t++) {
            x.task();
            x.ahead(t - 1, t);
            x.put(t, t);
            x.time(t, t % 3, 10 + t);
        }
        x.ahead(9, 6);
        x.pair(3, 8, 2);
        x.pair(0, 1, 2);
        x.hold(9, 10);
        x.share(1, 3);
        x.line(2);
        x.beat(30);
        x.sheet(0, 0, 3);
        x.write(0, 2, 77);
        x.sheet(1, 2, 40);
        x.write(1, 0, 1000000);
        x.write(1, 39, 9);
        x.sheet(2, 1, 0);
        x.write(3, 0, 0);
        for (int i = 0; i < waiting; i++) {
            x.tell(1);
        }
        return x;
    }

    // ---- what is asked of each

    private static void range(String name, Supplier<StationLine> bench, Call call, int low, int high, long finding) {
        range(name, bench, call, low, high, finding, finding);
    }

    private static void range(String name, Supplier<StationLine> bench, Call call, int low, int high,
            long under, long over) {
        for (int v = low; v <= high; v++) {
            long answer = call.on(bench.get(), v);
            must(answer >= 0, name + " of " + v + " is refused with " + answer);
        }
        refused(name, bench, call, low - 1, under);
        refused(name, bench, call, Integer.MIN_VALUE, under);
        refused(name, bench, call, high + 1, over);
        refused(name, bench, call, Integer.MAX_VALUE, over);
    }

    private static void refused(String name, Supplier<StationLine> bench, Call call, int v, long finding) {
        long answer = call.on(bench.get(), v);
        must(answer == finding, name + " of " + v + " answered " + answer + ", due is " + finding);
        for (int part = 0; part < Look.PARTS; part++) {
            StationLine other = bench.get();
            call.on(other, v);
            must(Look.at(bench.get(), part).equals(Look.at(other, part)), name + " of " + v + " changed part " + part);
        }
        StationLine counted = bench.get();
        int findings = counted.count(2) + (finding <= NOTHING ? 1 : 0);
        call.on(counted, v);
        must(counted.count(2) == findings, name + " of " + v + " left " + counted.count(2) + " findings of the host");
    }

    private static void taskCalls() {
        refused("an eleventh task", RangeTest::ten, (x, v) -> x.task(), 0, BAD);
        refused("back without a kept bench", RangeTest::bare, (x, v) -> x.back(), 0, NOTHING);
        refused("back without a kept bench", RangeTest::one, (x, v) -> x.back(), 0, NOTHING);
    }

    /** With none, one and ten tasks: those alone are taken. */
    private static void taskArguments() {
        List<Supplier<StationLine>> benches = List.of(RangeTest::bare, RangeTest::one, RangeTest::ten);
        int[] sizes = {0, 1, 10};
        for (int i = 0; i < 3; i++) {
            Supplier<StationLine> bench = benches.get(i);
            int last = sizes[i] - 1;
            range("time t", bench, (x, v) -> x.time(v, 0, 5), 0, last, BAD);
            range("free a", bench, (x, v) -> x.free(v, Math.max(0, last)), 0, last, BAD);
            range("free b", bench, (x, v) -> x.free(0, v), 0, last, BAD);
            range("hold t", bench, (x, v) -> x.hold(v, 3), 0, last, BAD);
            range("of t", bench, (x, v) -> x.of(v, 0), 0, last, BAD);
            range("put t", bench, (x, v) -> x.put(v, 2), 0, last, BAD);
            range("cause t", bench, (x, v) -> x.cause(v), 0, last, BAD);
            range("early t", bench, (x, v) -> x.early(v), 0, last, BAD);
            range("late t", bench, (x, v) -> x.late(v, 10), 0, last, BAD);
        }
        pairsOfTasks(RangeTest::bare, 0);
        pairsOfTasks(RangeTest::one, 1);
        pairsOfTasks(RangeTest::ten, 10);
    }

    /** Calls that name two tasks: each place for itself, with a task that is there in the other. */
    private static void pairsOfTasks(Supplier<StationLine> bench, int size) {
        for (int v : new int[] {-1, size, Integer.MIN_VALUE, Integer.MAX_VALUE}) {
            refused("ahead a", bench, (x, w) -> x.ahead(w, 0), v, BAD);
            refused("ahead b", bench, (x, w) -> x.ahead(0, w), v, BAD);
            refused("ahead both", bench, (x, w) -> x.ahead(w, w), v, BAD);
            refused("pair a", bench, (x, w) -> x.pair(w, 0, 1), v, BAD);
            refused("pair b", bench, (x, w) -> x.pair(0, w, 1), v, BAD);
        }
        for (int v = 0; v < size; v++) {
            refused("pair with itself", bench, (x, w) -> x.pair(w, w, 1), v, BAD);
            taken("ahead a", bench.get().ahead(v, 9), v < size - 1);
            taken("ahead b", bench.get().ahead(0, v), v > 0);
            taken("pair a", bench.get().pair(v, 9, 1), v < size - 1);
            taken("pair b", bench.get().pair(0, v, 1), v > 0);
        }
    }

    private static void taken(String name, long answer, boolean due) {
        must(answer >= 0 == due, name + " answered " + answer);
    }

    private static void numberArguments() {
        for (int m = 0; m < 3; m++) {
            int make = m;
            range("time v", RangeTest::ten, (x, v) -> x.time(9, make, v), 1, 100, BAD);
            range("share v", RangeTest::ten, (x, v) -> x.share(make, v), 0, 9, BAD);
        }
        range("time make", RangeTest::ten, (x, v) -> x.time(0, v, 5), 0, 2, BAD);
        range("share make", RangeTest::ten, (x, v) -> x.share(v, 5), 0, 2, BAD);
        range("the only share", RangeTest::bare, (x, v) -> x.share(0, v), 1, 9, BAD);
        range("pair how", RangeTest::ten, (x, v) -> x.pair(0, 9, v), 0, 2, BAD);
        range("hold station", RangeTest::ten, (x, v) -> x.hold(9, v), 0, 10, BAD);
        range("line kind", RangeTest::ten, (x, v) -> x.line(v), 0, 3, BAD);
        range("line kind", RangeTest::bare, (x, v) -> x.line(v), 0, 3, BAD);
        range("beat v", RangeTest::ten, (x, v) -> x.beat(v), 1, 1000, BAD);
        range("beat v", RangeTest::bare, (x, v) -> x.beat(v), 1, 1000, BAD);
        range("of what", RangeTest::ten, (x, v) -> x.of(0, v), 0, 8, BAD);
        range("count what", RangeTest::ten, (x, v) -> x.count(v), 0, 5, BAD);
        range("count what", RangeTest::bare, (x, v) -> x.count(v), 0, 5, BAD);
        range("ring k", RangeTest::ten, (x, v) -> x.ring(v), 0, 3, NONE);
        range("ring k without a ring", RangeTest::bare, (x, v) -> x.ring(v), 0, -1, NONE);
    }

    private static void handArguments() {
        range("put station", RangeTest::ten, (x, v) -> x.put(9, v), 0, 10, BAD);
        range("put station", RangeTest::one, (x, v) -> x.put(0, v), 0, 10, BAD);
        range("station k", RangeTest::bare, (x, v) -> x.station(v, 0), 1, 10, BAD);
        for (int w = 0; w < 3; w++) {
            int what = w;
            range("station k", RangeTest::ten, (x, v) -> x.station(v, what), 1, 10, BAD);
        }
        range("station what", RangeTest::ten, (x, v) -> x.station(10, v), 0, 2, BAD);
        range("rule which", RangeTest::ten, (x, v) -> x.rule(v), 0, 3, BAD);
        range("rule which", RangeTest::bare, (x, v) -> x.rule(v), 0, 3, BAD);
        refused("better of a hand that is not right", RangeTest::ten, (x, v) -> x.better(), 0, NONE);
    }

    private static void searchArguments() {
        range("leastBeat m", RangeTest::bare, (x, v) -> x.leastBeat(v), 1, 10, BAD);
        range("leastBeat m", RangeTest::one, (x, v) -> x.leastBeat(v), 1, 10, BAD);
        range("bound which", RangeTest::ten, (x, v) -> x.bound(v), 0, 1, BAD);
        range("bound which", RangeTest::bare, (x, v) -> x.bound(v), 0, 1, BAD);
        range("late m", RangeTest::one, (x, v) -> x.late(0, v), 1, 10, BAD);
        range("late m", RangeTest::ten, (x, v) -> x.late(9, v), 1, 10, BAD);
        Supplier<StationLine> tight = RangeTest::tight;
        for (int i = 0; i < 4; i++) {
            int which = i;
            refused("rule of too much", tight, (x, v) -> x.rule(which), i, NONE);
        }
        refused("fewest of too much", tight, (x, v) -> x.fewest(), 0, NONE);
        refused("many of too much", tight, (x, v) -> x.many(), 0, 0);
        refused("best of too much", tight, (x, v) -> x.best(false), 0, NONE);
        refused("evenest putting of too much", tight, (x, v) -> x.best(true), 0, NONE);
        refused("evenest of too much", tight, (x, v) -> x.evenest(), 0, -1);
        refused("leastBeat below a held station", tight, (x, v) -> x.leastBeat(9), 0, NONE);
        refused("better of too much", tight, (x, v) -> x.better(), 0, NONE);
    }

    /** One task is too much for the beat. */
    private static StationLine tight() {
        StationLine x = ten();
        x.time(4, 0, 100);
        x.beat(1);
        return x;
    }

    private static void sheetArguments() {
        for (int i = 0; i < 3; i++) {
            int sort = i;
            range("sheet n", RangeTest::ten, (x, v) -> x.sheet(3, sort, v), 0, 40, SIZE, BAD);
            range("sheet n", RangeTest::ten, (x, v) -> x.sheet(1, sort, v), 0, 40, SIZE, BAD);
            range("sheet s", RangeTest::ten, (x, v) -> x.sheet(v, sort, 5), 0, 3, BAD);
        }
        range("sheet sort", RangeTest::ten, (x, v) -> x.sheet(0, v, 5), 0, 2, BAD);
        range("lose s", RangeTest::ten, (x, v) -> x.lose(v), 0, 3, BAD);
        range("lose s", RangeTest::bare, (x, v) -> x.lose(v), 0, 3, BAD);
        for (int v : new int[] {-1, 4, Integer.MIN_VALUE, Integer.MAX_VALUE}) {
            refused("write s", RangeTest::sheetsOfAllSizes, (x, w) -> x.write(w, 0, 5), v, BAD);
        }
        range("write i, missing", RangeTest::sheetsOfAllSizes, (x, v) -> x.write(0, v, 5), 0, -1, NOTHING);
        range("write i of one", RangeTest::sheetsOfAllSizes, (x, v) -> x.write(1, v, 5), 0, 0, PLACE);
        range("write i of ten", RangeTest::sheetsOfAllSizes, (x, v) -> x.write(2, v, 5), 0, 9, PLACE);
        range("write i of forty", RangeTest::sheetsOfAllSizes, (x, v) -> x.write(3, v, 5), 0, 39, PLACE);
        range("write i of none", RangeTest::ten, (x, v) -> x.write(2, v, 5), 0, -1, PLACE);
    }

    private static void takeArguments() {
        Supplier<StationLine> all = RangeTest::sheetsOfAllSizes;
        for (int i = 0; i < 3; i++) {
            int make = i;
            range("take i of forty", all, (x, v) -> x.take(make, 3, 1, v), 0, 30, PLACE);
            range("take i of ten", all, (x, v) -> x.take(make, 2, 2, v), 0, 0, PLACE);
            range("take i of one", all, (x, v) -> x.take(make, 1, 0, v), 0, -1, PLACE);
            range("take i, missing", all, (x, v) -> x.take(make, 0, 0, v), 0, -1, NOTHING);
            range("take i of none", RangeTest::ten, (x, v) -> x.take(make, 2, 1, v), 0, -1, PLACE);
            range("take i, another sort", all, (x, v) -> x.take(make, 3, 2, v), 0, -1, SORT);
        }
        range("take make", all, (x, v) -> x.take(v, 3, 1, 0), 0, 2, BAD);
        for (int v : new int[] {-1, 4, Integer.MIN_VALUE, Integer.MAX_VALUE}) {
            refused("take s", all, (x, w) -> x.take(0, w, 1, 0), v, BAD);
        }
        for (int v : new int[] {-1, 3, Integer.MIN_VALUE, Integer.MAX_VALUE}) {
            refused("take sort", all, (x, w) -> x.take(0, 3, w, 0), v, BAD);
        }
        for (int sort = 0; sort < 3; sort++) {
            for (int s = 1; s < 4; s++) {
                int sheet = s;
                boolean same = s == 1 && sort == 0 || s == 2 && sort == 2 || s == 3 && sort == 1;
                long due = !same ? SORT : s == 1 ? PLACE : 0;
                if (due < 0) {
                    refused("take sort of " + s, all, (x, v) -> x.take(0, sheet, v, 0), sort, due);
                } else {
                    taken("take sort of " + s, all.get().take(0, s, sort, 0), true);
                }
            }
        }
    }

    /** Ten tasks; sheet 0 is missing, the others have one number, ten and forty. */
    private static StationLine sheetsOfAllSizes() {
        StationLine x = ten();
        x.lose(0);
        x.sheet(1, 0, 1);
        x.sheet(2, 2, 10);
        x.sheet(3, 1, 40);
        return x;
    }

    private static void withoutTasks() {
        for (int v : new int[] {0, -1, 1, 39, 40, 41, Integer.MIN_VALUE, Integer.MAX_VALUE}) {
            for (int n : new int[] {0, 40}) {
                StationLine x = bare();
                x.sheet(2, 1, n);
                must(x.take(2, 2, 1, v) == 0, "take without tasks from place " + v + " of " + n);
                must(x.count(2) == 0, "take without tasks was counted as a finding");
            }
        }
    }

    private static void toldCalls() {
        refused("a number after twenty", () -> told(20), (x, v) -> x.tell(v), 5, BAD);
        refused("a number after twenty", () -> told(20), (x, v) -> x.tell(v), Integer.MIN_VALUE, BAD);
        for (int waiting = 0; waiting <= 20; waiting++) {
            taken("a number after " + waiting, told(waiting).tell(Integer.MAX_VALUE), waiting < 20);
            long answer = told(waiting).check();
            must(answer == (waiting == 10 ? 2 : BAD), "check of " + waiting + " answered " + answer);
            for (int part = 0; part < Look.PARTS; part++) {
                StationLine other = told(waiting);
                other.check();
                must(Look.at(told(0), part).equals(Look.at(other, part)), "check of " + waiting + " changed part " + part);
            }
        }
        for (int place = 0; place < 10; place++) {
            for (int v : new int[] {-1, 11, Integer.MIN_VALUE, Integer.MAX_VALUE}) {
                must(checkWith(place, v) == BAD, "check with " + v + " at " + place);
            }
            must(checkWith(place, 0) >= 0 && checkWith(place, 10) >= 0, "check with 0 or 10 at " + place);
        }
    }

    private static long checkWith(int place, int v) {
        StationLine x = told(0);
        for (int t = 0; t < 10; t++) {
            x.tell(t == place ? v : 3);
        }
        return x.check();
    }

    /** What is wrong is asked in the order in which the document tells it. */
    private static void orderOfFindings() {
        refused("sheet: BAD before SIZE", RangeTest::ten, (x, v) -> x.sheet(v, 0, -1), 4, BAD);
        refused("sheet: BAD before SIZE", RangeTest::ten, (x, v) -> x.sheet(0, v, -1), 3, BAD);
        refused("write: BAD before PLACE", RangeTest::ten, (x, v) -> x.write(v, -1, 0), 4, BAD);
        refused("write: NOTHING before PLACE", RangeTest::ten, (x, v) -> x.write(3, v, 0), -1, NOTHING);
        refused("take: BAD before NOTHING", RangeTest::ten, (x, v) -> x.take(v, 3, 0, -1), 3, BAD);
        refused("take: BAD before NOTHING", RangeTest::ten, (x, v) -> x.take(0, 3, v, -1), 3, BAD);
        refused("take: BAD before SORT", RangeTest::ten, (x, v) -> x.take(v, 0, 1, -1), -1, BAD);
        refused("take: NOTHING before SORT, PLACE", RangeTest::ten, (x, v) -> x.take(0, 3, 1, v), -1, NOTHING);
        refused("take: SORT before PLACE", RangeTest::ten, (x, v) -> x.take(0, 0, 1, v), -1, SORT);
        refused("leastBeat: BAD before NONE", RangeTest::tight, (x, v) -> x.leastBeat(v), 0, BAD);
        refused("leastBeat: BAD before NONE", RangeTest::tight, (x, v) -> x.leastBeat(v), 11, BAD);
        refused("rule: BAD before NONE", RangeTest::tight, (x, v) -> x.rule(v), 4, BAD);
        refused("rule: BAD before NONE", RangeTest::tight, (x, v) -> x.rule(v), -1, BAD);
    }
}

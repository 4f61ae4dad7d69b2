/**
 * One object of each kind of use, up to its 512th call: what was done in the first calls and again
 * and again since holds to the last. The answers were worked out by hand.
 */
public final class LastCallTest {
    private static final int CALLS = 512;
    private static final Edges edges = new Edges("LastCallTest");
    private static int made = 0;

    public static void main(String[] args) {
        tasksToTheLast();
        timesToTheLast();
        sharesToTheLast();
        linksToTheLast();
        ringsToTheLast();
        pairsAndHoldsToTheLast();
        kindsAndBeatsToTheLast();
        handToTheLast();
        searchesToTheLast();
        boundsToTheLast();
        rulesToTheLast();
        betterToTheLast();
        sheetsToTheLast();
        takesToTheLast();
        toldToTheLast();
        keptToTheLast();
        findingsToTheLast();
        edges.end();
    }

    private static void begin(String words) {
        edges.of("up to the 512th call, " + words);
        made = 0;
    }

    /** Whether as many calls as told are left; each is counted by its own answer. */
    private static boolean left(int calls) {
        return made + calls <= CALLS;
    }

    private static void due(String what, long got, long want) {
        made++;
        edges.due(what + " at call " + made, got, want);
    }

    private static void end() {
        edges.due("calls", made, CALLS);
    }

    private static StationLine with(int... times) {
        StationLine x = new StationLine();
        for (int t = 0; t < times.length; t++) {
            due("task", x.task(), t);
            due("time", x.time(t, 0, times[t]), 1);
        }
        return x;
    }

    private static void tasksToTheLast() {
        begin("2: task");
        StationLine x = new StationLine();
        for (int t = 0; t < 10; t++) {
            due("task", x.task(), t);
        }
        while (left(2)) {
            due("an eleventh", x.task(), Edges.BAD);
        }
        due("tasks", x.count(0), 10);
        end();
        begin("2: a task is new each time");
        StationLine y = new StationLine();
        due("task", y.task(), 0);
        due("keep", y.keep(), 1);
        while (left(5)) {
            due("task", y.task(), 1);
            due("its time", y.time(1, 1, 77), 1);
            due("its station", y.put(1, 4), 0);
            due("its hold", y.hold(1, 5), 0);
            due("back", y.back(), 1);
        }
        while (left(1)) {
            due("tasks", y.count(0), 1);
        }
        end();
    }

    private static void timesToTheLast() {
        begin("3: what it was");
        StationLine x = with(1, 1);
        int was = 1;
        for (int i = 0; left(2); i++) {
            int v = 1 + i * 37 % 100;
            due("time", x.time(1, 0, v), was);
            was = v;
        }
        due("its time", x.of(1, 0), was);
        end();
    }

    private static void sharesToTheLast() {
        begin("4: one at least is above 0");
        StationLine x = new StationLine();
        while (left(6)) {
            due("the only one", x.share(0, 0), Edges.BAD);
            due("another", x.share(2, 9), 0);
            due("then it can go", x.share(0, 0), 1);
            due("now that is the only one", x.share(2, 0), Edges.BAD);
            due("the first again", x.share(0, 1), 0);
            due("the other goes", x.share(2, 0), 9);
        }
        while (left(1)) {
            due("the only one", x.share(0, 0), Edges.BAD);
        }
        end();
    }

    private static void linksToTheLast() {
        begin("5 and 6: ahead and free");
        StationLine x = with(1, 1, 1);
        due("ahead", x.ahead(0, 1), 1);
        while (left(8)) {
            due("ahead", x.ahead(1, 2), 1);
            due("already", x.ahead(1, 2), 0);
            due("leading", x.of(2, 4), 3);
            due("following", x.of(0, 5), 6);
            due("free", x.free(1, 2), 1);
            due("no more", x.free(1, 2), 0);
            due("leading", x.of(2, 4), 0);
            due("following", x.of(0, 5), 2);
        }
        while (left(1)) {
            due("still ahead", x.of(1, 3), 1);
        }
        end();
    }

    private static void ringsToTheLast() {
        begin("7: the latest ring");
        StationLine x = with(1, 1, 1);
        due("ahead", x.ahead(0, 1), 1);
        due("ahead", x.ahead(1, 2), 1);
        while (left(7)) {
            due("a ring of three", x.ahead(2, 0), Edges.RING);
            due("ring", x.ring(2), 1);
            due("a ring of two", x.ahead(2, 1), Edges.RING);
            due("ring", x.ring(1), 1);
            due("ring", x.ring(2), Edges.NONE);
            due("a ring of one", x.ahead(1, 1), Edges.RING);
            due("ring", x.ring(0), 1);
        }
        while (left(1)) {
            due("ring", x.ring(1), Edges.NONE);
        }
        end();
    }

    private static void pairsAndHoldsToTheLast() {
        begin("8 and 9: what they were, where it was");
        StationLine x = with(5, 5);
        int was = 0;
        int place = 0;
        for (int i = 1; left(3); i++) {
            due("pair", x.pair(i % 2, 1 - i % 2, i % 3), was);
            was = i % 3;
            due("hold", x.hold(0, i % 11), place);
            place = i % 11;
            due("fewest", x.fewest(), place == 0 && was == 2 || place == 1 && was == 2 ? 2 : Math.max(1, place));
        }
        while (left(1)) {
            due("held", x.of(0, 6), place);
        }
        end();
    }

    private static void kindsAndBeatsToTheLast() {
        begin("10 and 11: what it was");
        StationLine x = with(6);
        due("time", x.time(0, 1, 8), 1);
        due("share", x.share(1, 2), 0);
        int[] loads = {6, 6, 22, 8};
        int kind = 0;
        int beat = 10;
        for (int i = 1; left(4); i++) {
            due("line", x.line(i % 4), kind);
            kind = i % 4;
            int v = 1 + i * 331 % 1000;
            due("beat", x.beat(v), beat);
            beat = v;
            due("load", x.of(0, 8), loads[kind]);
            due("room", x.count(5), kind == 2 ? 3 * beat : beat);
        }
        while (left(1)) {
            due("kind", x.count(3), kind);
        }
        end();
    }

    private static void handToTheLast() {
        begin("13 to 18: the hand");
        StationLine x = with(3, 4);
        due("ahead", x.ahead(0, 1), 1);
        due("put", x.put(0, 5), 0);
        int was = 0;
        for (int i = 1; left(7); i++) {
            int k = i % 11;
            due("put", x.put(1, k), was);
            was = k;
            due("its cause", x.cause(1), k == 0 ? 1 : k < 5 ? 6 : 0);
            due("clash", x.clash(), k < 5 ? 1 : -1);
            due("set", x.station(5, 0), k == 5 ? 3 : 1);
            due("left", x.station(5, 2), k == 5 ? 3 : 7);
            due("length", x.length(), Math.max(5, k));
            due("squares", x.squares(), k == 0 ? 9 : k == 5 ? 49 : 25);
        }
        while (left(1)) {
            due("its station", x.of(1, 7), was);
        }
        end();
    }

    private static void searchesToTheLast() {
        begin("19 to 23: the least of all");
        StationLine x = with(4, 3, 5, 2);
        due("ahead", x.ahead(0, 2), 1);
        due("ahead", x.ahead(1, 3), 1);
        due("beat", x.beat(9), 10);
        for (int i = 0; left(12); i++) {
            boolean bent = i % 2 == 1;
            due("fewest", x.fewest(), 2);
            due("many", x.many(), bent ? 8 : 4);
            due("evenest", x.evenest(), 98);
            due("best", x.best(true), 2);
            due("squares", x.squares(), 98);
            due("least beat", x.leastBeat(2), 7);
            due("less", x.beat(6), 9);
            due("best", x.best(false), 3);
            due("squares", x.squares(), 66);
            due("least beat", x.leastBeat(3), 5);
            due("more", x.beat(9), 6);
            due("line", x.line(bent ? 0 : 1), bent ? 1 : 0);
        }
        while (left(1)) {
            due("fewest", x.fewest(), 2);
        }
        end();
    }

    private static void boundsToTheLast() {
        begin("24 to 26: bounds, early, late");
        StationLine x = with(4, 3, 5);
        due("ahead", x.ahead(0, 1), 1);
        due("ahead", x.ahead(1, 2), 1);
        while (left(11)) {
            due("bound", x.bound(0), 2);
            due("bound", x.bound(1), 1);
            due("early", x.early(2), 2);
            due("late", x.late(0, 10), 9);
            due("free", x.free(1, 2), 1);
            due("early", x.early(2), 1);
            due("late", x.late(0, 10), 10);
            due("beat", x.beat(1), 10);
            due("bound", x.bound(0), 12);
            due("beat", x.beat(10), 1);
            due("ahead", x.ahead(1, 2), 1);
        }
        while (left(1)) {
            due("bound", x.bound(1), 1);
        }
        end();
    }

    private static void rulesToTheLast() {
        begin("27: rule");
        StationLine x = with(4, 3, 5, 2);
        due("ahead", x.ahead(0, 2), 1);
        due("ahead", x.ahead(1, 3), 1);
        due("beat", x.beat(9), 10);
        int[] firsts = {5, 11, 11, 11};
        for (int i = 0; left(6); i++) {
            due("rule", x.rule(i % 4), 2);
            due("first station", x.station(1, 0), firsts[i % 4]);
            due("a beat too small", x.beat(4), 9);
            due("rule", x.rule(i % 4), Edges.NONE);
            due("the hand is as it was", x.station(1, 0), firsts[i % 4]);
            due("the beat again", x.beat(9), 4);
        }
        while (left(1)) {
            due("length", x.length(), 2);
        }
        end();
    }

    private static void betterToTheLast() {
        begin("28: better");
        StationLine x = with(4, 3, 5, 2);
        due("ahead", x.ahead(0, 2), 1);
        due("ahead", x.ahead(1, 3), 1);
        due("beat", x.beat(9), 10);
        while (left(6)) {
            due("rule", x.rule(3), 2);
            due("better", x.better(), 1);
            due("squares", x.squares(), 98);
            due("no better", x.better(), 0);
            due("put away", x.put(2, 0), 2);
            due("not right", x.better(), Edges.NONE);
        }
        while (left(1)) {
            due("not right", x.better(), Edges.NONE);
        }
        end();
    }

    private static void sheetsToTheLast() {
        begin("29, 30 and 32: sheets");
        StationLine x = new StationLine();
        due("one that stays", x.sheet(3, 2, 1), 1);
        due("its number", x.write(3, 0, 12345), 0);
        for (int i = 0; left(7); i++) {
            due("sheet", x.sheet(0, i % 3, 40), 40);
            due("all 0", x.write(0, 39, 70000), 0);
            due("narrowed", x.write(0, 39, 1), i % 3 == 0 ? 112 : i % 3 == 1 ? 4464 : 70000);
            due("no such place", x.write(0, 40, 1), Edges.PLACE);
            due("lost", x.lose(0), 1);
            due("lost already", x.lose(0), 0);
            due("missing", x.write(0, 39, 1), Edges.NOTHING);
        }
        while (left(1)) {
            due("the one that stays", x.write(3, 0, 12345), 12345);
        }
        end();
    }

    private static void takesToTheLast() {
        begin("31: take");
        StationLine x = with(5, 6);
        due("sheet", x.sheet(2, 1, 4), 4);
        due("write", x.write(2, 0, 0), 0);
        due("write", x.write(2, 1, 101), 0);
        due("write", x.write(2, 2, 50), 0);
        due("write", x.write(2, 3, 51), 0);
        while (left(7)) {
            due("both so", x.take(0, 2, 1, 0), 2);
            due("time", x.of(1, 0), 100);
            due("neither so", x.take(0, 2, 1, 2), 0);
            due("time", x.of(1, 0), 51);
            due("too far", x.take(0, 2, 1, 3), Edges.PLACE);
            due("another sort", x.take(0, 2, 0, 0), Edges.SORT);
            due("missing", x.take(0, 1, 1, 0), Edges.NOTHING);
        }
        while (left(1)) {
            due("time", x.of(0, 0), 50);
        }
        end();
    }

    private static void toldToTheLast() {
        begin("33 and 34: told puttings");
        StationLine x = with(5, 6);
        while (left(28)) {
            for (int i = 1; i <= 20; i++) {
                due("tell", x.tell(1), i);
            }
            due("20 wait", x.tell(1), Edges.BAD);
            due("too many", x.check(), Edges.BAD);
            due("tell", x.tell(1), 1);
            due("tell", x.tell(1), 2);
            due("too much load", x.check(), 2);
            due("tell", x.tell(2), 1);
            due("tell", x.tell(1), 2);
            due("right", x.check(), 0);
        }
        while (left(1)) {
            due("none wait", x.count(1), 0);
        }
        end();
    }

    private static void keptToTheLast() {
        begin("35 and 36: keep and back");
        StationLine x = with(5, 6);
        due("put", x.put(0, 3), 0);
        due("keep", x.keep(), 2);
        while (left(10)) {
            due("a change", x.put(0, 7), 3);
            due("a change", x.time(0, 0, 50), 5);
            due("a change", x.beat(77), 10);
            due("a change", x.line(3), 0);
            due("a change", x.ahead(1, 0), 1);
            due("a change", x.pair(0, 1, 2), 0);
            due("a change", x.task(), 2);
            due("back", x.back(), 2);
            due("tasks", x.count(0), 2);
            due("fewest", x.fewest(), 2);
        }
        while (left(1)) {
            due("back", x.back(), 2);
        }
        end();
    }

    private static void findingsToTheLast() {
        begin("37: findings of the host ever");
        StationLine x = new StationLine();
        while (left(2)) {
            due("nothing is kept", x.back(), Edges.NOTHING);
        }
        due("findings", x.count(2), CALLS - 1);
        end();
    }
}

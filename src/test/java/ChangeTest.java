import java.util.LinkedHashMap;
import java.util.Map;
import java.util.TreeMap;
import java.util.function.Consumer;
import java.util.function.ToIntFunction;

/**
 * One bench of four tasks, and what all calls answer of it: first as it is, then after each call
 * that changes something. What a change doesn't name must be as it was. Most answers were first
 * printed by the program, and then gone through by hand, each by the document's words. Then calls
 * that are refused, after each of these changes.
 */
public final class ChangeTest {
    private static final String[] FIRST = {
        "tasks=4", "waiting=4", "findings=0", "kind=0", "beat=9", "room=9",
        "time0=4,3,5,2", "time1=2,6,1,3", "time2=1,1,7,2", "ahead=0,0,1,2", "leading=0,0,1,2",
        "following=4,8,0,0", "held=0,0,0,0", "at=1,1,2,0", "load=4,3,5,2", "ring=",
        "causes=0001", "clash=3", "sets=3,4,0", "loads=7,5,0", "left=2,4,9", "length=2", "squares=74",
        // Station 1 has tasks 0 1, or 0 2, or 1 3, or 0 1 3.
        "fewest=2", "many=4", "evenest=98", "leastBeats=14,7,5,5",
        "bound0=2", "bound1=1", "early=1,1,1,1", "late=3,3,3,3",
        "best=2:1,1,2,2", "even=2:1,1,2,2",
        "rule0=2:1,2,1,2", "rule1=2:1,1,2,1", "rule2=2:1,1,2,1", "rule3=2:1,1,2,1", "better=-4:1,1,2,0",
        "sheet0=0", "sheet1=1sort 0: 7 -3 0 0 120", "sheet2=0", "sheet3=0",
        "shares=1,0,0", "pairs=", "check=36", "back=-10"};

    private static final Edges edges = new Edges("ChangeTest");
    private static final Map<String, Consumer<StationLine>> changes = new LinkedHashMap<>();
    private static final Map<String, ToIntFunction<StationLine>> refused = new LinkedHashMap<>();
    private static final Map<String, Integer> findings = new TreeMap<>();

    public static void main(String[] args) {
        change("nothing", x -> { });
        tasksChange();
        linksChange();
        lineChanges();
        sharesChange();
        handChanges();
        sheetsChange();
        toldChange();
        backChanges();
        refusedCalls();
        refusedSheetCalls();
        refuseAfterAll();
        edges.end();
    }

    private static StationLine first() {
        StationLine x = Edges.with(4, 3, 5, 2);
        int[][] others = {{2, 6, 1, 3}, {1, 1, 7, 2}};
        for (int t = 0; t < 4; t++) {
            x.time(t, 1, others[0][t]);
            x.time(t, 2, others[1][t]);
        }
        x.ahead(0, 2);
        x.ahead(1, 3);
        x.beat(9);
        Edges.putAll(x, 1, 1, 2);
        x.sheet(1, 0, 5);
        x.write(1, 0, 7);
        x.write(1, 1, -3);
        x.write(1, 4, 120);
        for (int k : new int[] {1, 2, 2, 1}) {
            x.tell(k);
        }
        return x;
    }

    private static StationLine after(Consumer<StationLine> change) {
        StationLine x = first();
        change.accept(x);
        return x;
    }

    private static void change(String name, Consumer<StationLine> change, String... due) {
        changes.put(name, change);
        Map<String, String> want = new TreeMap<>();
        for (String row : FIRST) {
            want.put(nameOf(row), row);
        }
        for (String row : due) {
            edges.due("ChangeTest has no " + row, want.containsKey(nameOf(row)) ? 1 : 0, 1);
            want.put(nameOf(row), row);
        }
        edges.of("after " + name);
        same(View.of(() -> after(change)), want);
    }

    private static String nameOf(String row) {
        return row.substring(0, row.indexOf('='));
    }

    private static void same(Map<String, String> seen, Map<String, String> want) {
        edges.due("things seen", seen.size(), want.size());
        for (String name : seen.keySet()) {
            String got = name + "=" + seen.get(name);
            edges.due(got + " where " + want.get(name) + " is due", got.equals(want.get(name)) ? 1 : 0, 1);
        }
    }

    private static void tasksChange() {
        change("a new task", x -> x.task(), "tasks=5", "time0=4,3,5,2,1", "time1=2,6,1,3,1", "time2=1,1,7,2,1",
                "ahead=0,0,1,2,0", "leading=0,0,1,2,0", "following=4,8,0,0,0", "held=0,0,0,0,0", "at=1,1,2,0,0",
                "load=4,3,5,2,1", "causes=00011", "many=5", "evenest=113", "leastBeats=15,8,5,5",
                "early=1,1,1,1,1", "late=3,3,3,3,3", "best=2:1,1,2,2,2", "even=2:1,1,2,2,2",
                "rule0=2:1,2,1,2,2", "rule1=2:1,1,2,1,2", "rule2=2:1,1,2,1,2", "rule3=2:1,1,2,1,2",
                "better=-4:1,1,2,0,0", "check=-2");
        change("a time for make 0", x -> x.time(1, 0, 8), "time0=4,8,5,2", "load=4,8,5,2", "causes=2201", "clash=0",
                "loads=12,5,0", "left=-3,4,9", "squares=169", "fewest=3", "many=6", "evenest=125",
                "leastBeats=19,10,8,8", "bound0=3", "bound1=2", "early=1,1,1,2", "late=3,2,3,3",
                "best=3:1,2,3,3", "even=3:2,1,3,2", "rule0=3:2,1,2,3", "rule1=3:2,1,2,3", "rule2=3:1,2,1,3",
                "rule3=3:1,2,1,3", "check=12");
        change("a time for make 1", x -> x.time(1, 1, 8), "time1=2,8,1,3");
        change("a time for make 2", x -> x.time(3, 2, 100), "time2=1,1,7,100");
        change("the same time", x -> x.time(1, 0, 3));
        change("a hold", x -> x.hold(2, 1), "held=0,0,1,0", "causes=0051", "clash=2", "many=1", "evenest=106",
                "leastBeats=14,9,9,9", "best=2:1,2,1,2", "even=2:1,2,1,2", "check=25");
        change("a hold further on", x -> x.hold(0, 3), "held=3,0,0,0", "causes=5001", "clash=0", "fewest=3", "many=3",
                "evenest=94", "leastBeats=-4,-4,9,5", "best=3:3,2,3,2", "even=3:3,1,3,2", "check=5");
        change("a hold and none", x -> x.hold(0, x.hold(0, 3)));
    }

    private static void linksChange() {
        change("one more ahead", x -> x.ahead(0, 3), "ahead=0,0,1,3", "leading=0,0,1,3", "following=12,8,0,0", "many=3",
                "late=2,3,3,3");
        change("a chain", x -> x.ahead(2, 3), "ahead=0,0,1,6", "leading=0,0,1,7", "following=12,8,8,0", "many=2",
                "early=1,1,1,2", "late=2,3,3,3", "rule1=2:1,2,1,2", "rule2=2:1,1,2,2", "rule3=2:1,1,2,2");
        change("ahead already", x -> x.ahead(0, 2));
        change("a ring", x -> x.ahead(3, 1), "ring=31");
        change("a ring of one", x -> x.ahead(2, 2), "ring=2");
        change("a chain, then a ring", x -> x.ahead(3, x.ahead(2, 3) - 1), "ahead=0,0,1,6", "leading=0,0,1,7",
                "following=12,8,8,0", "ring=302", "many=2", "early=1,1,1,2", "late=2,3,3,3",
                "rule1=2:1,2,1,2", "rule2=2:1,1,2,2", "rule3=2:1,1,2,2");
        change("free", x -> x.free(0, 2), "ahead=0,0,0,2", "leading=0,0,0,2", "following=0,8,0,0", "many=6",
                "rule1=2:2,1,1,2");
        change("free of what was not", x -> x.free(2, 0));
        change("together", x -> x.pair(0, 3, 1), "causes=3001", "clash=0", "many=1", "evenest=106",
                "leastBeats=14,9,6,6", "best=2:1,1,2,1", "even=2:1,1,2,1", "pairs= 03=1");
        change("apart", x -> x.pair(0, 1, 2), "causes=4401", "clash=0", "many=2", "evenest=106",
                "leastBeats=-4,9,5,5", "best=2:1,2,1,2", "even=2:1,2,1,2", "pairs= 01=2");
        change("apart and neither", x -> x.pair(1, 0, x.pair(0, 1, 2)));
    }

    private static void lineChanges() {
        change("a bent line", x -> x.line(1), "kind=1", "many=8", "check=0");
        change("a mean line of one make", x -> x.line(2), "kind=2");
        change("an each line of one make", x -> x.line(3), "kind=3");
        change("a bent line, and back", x -> x.line(x.line(1)));
        change("a beat that two just meet", x -> x.beat(7), "beat=7", "room=7", "left=0,2,7", "many=1", "bound1=2",
                "early=1,1,2,1", "late=2,3,3,3", "rule0=2:1,1,2,2", "rule1=2:1,1,2,2", "rule2=2:1,1,2,2",
                "rule3=2:1,1,2,2", "check=12");
        change("a lesser beat", x -> x.beat(6), "beat=6", "room=6", "causes=2201", "clash=0", "left=-1,1,6", "fewest=3",
                "evenest=66", "bound0=3", "bound1=3", "early=1,1,2,1", "late=2,3,3,3", "best=3:1,3,2,3",
                "even=3:1,3,2,3", "rule0=3:1,3,2,3", "rule1=3:1,2,3,2", "rule2=3:1,2,3,2", "rule3=3:1,2,3,2",
                "check=12");
        change("a beat too small", x -> x.beat(4), "beat=4", "room=4", "causes=2221", "clash=0", "left=-3,-1,4",
                "fewest=-4", "many=0", "evenest=-1", "bound0=4", "bound1=4", "early=1,1,3,2", "late=1,2,2,3",
                "best=-4:1,1,2,0", "even=-4:1,1,2,0", "rule0=-4:1,1,2,0", "rule1=-4:1,1,2,0", "rule2=-4:1,1,2,0",
                "rule3=-4:1,1,2,0", "check=2");
        change("the greatest beat", x -> x.beat(1000), "beat=1000", "room=1000", "left=993,995,1000", "fewest=1",
                "many=1", "evenest=196", "bound0=1", "bound1=0", "best=1:1,1,1,1", "even=1:1,1,1,1",
                "rule0=1:1,1,1,1", "rule1=1:1,1,1,1", "rule2=1:1,1,1,1", "rule3=1:1,1,1,1");
    }

    private static void share(StationLine x, int kind) {
        x.line(kind);
        x.share(1, 2);
        x.share(2, 1);
    }

    private static void sharesChange() {
        change("a share of a line", x -> x.share(1, 2), "shares=1,2,0");
        change("shares of a mean line", x -> share(x, 2), "kind=2", "room=36", "load=9,16,14,10", "loads=25,14,0",
                "left=11,22,36", "squares=821", "many=5", "evenest=1201", "leastBeats=13,7,5,4", "bound1=0",
                "best=2:2,1,2,2", "rule0=2:1,1,2,1", "shares=1,2,1");
        change("shares of an each line", x -> share(x, 3), "kind=3", "load=4,6,7,3", "loads=8,7,0", "left=1,2,9",
                "squares=113", "many=3", "evenest=145", "leastBeats=14,9,7,7", "bound1=2", "rule0=2:1,1,2,2",
                "rule1=2:1,1,2,2", "rule2=2:1,1,2,2", "rule3=2:1,1,2,2", "shares=1,2,1");
        change("shares without make 0", x -> {
            share(x, 3);
            x.share(0, 0);
        }, "kind=3", "load=2,6,7,3", "loads=8,7,0", "left=1,2,9", "squares=113", "evenest=90", "leastBeats=12,9,7,7",
                "bound1=2", "even=2:1,1,1,2", "rule0=2:2,1,2,1", "rule1=2:1,1,1,2", "rule2=2:1,1,1,2",
                "rule3=2:1,1,1,2", "shares=0,2,1");
        change("shares, then a bent line", x -> {
            share(x, 3);
            x.line(1);
        }, "kind=1", "many=8", "check=0", "shares=1,2,1");
    }

    private static void handChanges() {
        String[] whole = {"at=1,1,2,2", "causes=0000", "clash=-1", "sets=3,12,0", "loads=7,7,0", "left=2,2,9",
            "squares=98", "better=0:1,1,2,2"};
        change("put", x -> x.put(3, 2), whole);
        change("the best", x -> x.best(false), whole);
        change("the evenest", x -> x.best(true), whole);
        change("put away", x -> x.put(0, 0), "at=0,1,2,0", "causes=1061", "clash=0", "sets=2,4,0", "loads=3,5,0",
                "left=6,4,9", "squares=34", "better=-4:0,1,2,0");
        change("put further on", x -> x.put(3, 10), "at=1,1,2,10", "causes=0000", "clash=-1", "length=10", "squares=78",
                "better=1:1,3,2,10");
        change("rule 0", x -> x.rule(0), "at=1,2,1,2", "causes=0000", "clash=-1", "sets=5,10,0", "loads=9,5,0",
                "left=0,4,9", "squares=106", "better=0:1,2,1,2");
        change("rule 3", x -> x.rule(3), "at=1,1,2,1", "causes=0000", "clash=-1", "sets=11,4,0", "loads=9,5,0",
                "left=0,4,9", "squares=106", "better=1:1,1,2,2");
        change("rule 3, bettered", x -> {
            x.rule(3);
            x.better();
        }, whole);
        change("no bettering", x -> x.better());
    }

    private static void sheetsChange() {
        change("one more sheet", x -> x.sheet(0, 2, 2), "sheet0=1sort 2: 0 0");
        change("a sheet laid anew", x -> x.sheet(1, 1, 3), "sheet1=1sort 1: 0 0 0");
        change("a number narrowed", x -> x.write(1, 3, 300), "sheet1=1sort 0: 7 -3 0 44 120");
        change("times taken", x -> x.take(0, 1, 0, 0), "time0=7,1,1,1", "load=7,1,1,1", "loads=8,1,0", "left=1,8,9",
                "squares=65", "many=7", "evenest=58", "leastBeats=10,7,7,7", "best=2:1,2,2,2", "even=2:1,2,2,2",
                "rule0=2:1,1,1,2", "rule1=2:1,1,1,2", "rule2=2:1,1,1,2", "rule3=2:1,1,1,2");
        change("times of another make taken", x -> x.take(2, 1, 0, 1), "time2=1,1,1,100");
        change("a sheet lost", x -> x.lose(1), "sheet1=0");
        change("a missing sheet lost", x -> x.lose(2));
    }

    private static void toldChange() {
        change("one more told", x -> x.tell(3), "waiting=5", "check=-2");
        change("judged", x -> x.check(), "waiting=0", "check=-2");
        change("judged and told again", x -> {
            x.check();
            Edges.judged(x, 1, 1, 2, 2);
            for (int k : new int[] {1, 1, 2, 2}) {
                x.tell(k);
            }
        }, "check=0");
        change("all told that can wait", x -> {
            for (int i = 0; i < 20; i++) {
                x.tell(i);
            }
        }, "waiting=20", "check=-2");
    }

    private static void changeMuch(StationLine x) {
        x.task();
        x.time(0, 0, 9);
        x.time(1, 2, 9);
        x.ahead(2, 3);
        x.free(0, 2);
        x.pair(0, 1, 2);
        x.hold(3, 3);
        x.line(2);
        x.beat(30);
        x.put(3, 5);
    }

    private static void backChanges() {
        String kept = "back=4:4,3,5,2:1,1,2,0:0,9";
        change("kept", x -> x.keep(), kept);
        change("nothing kept", x -> x.back(), "findings=1");
        change("kept, much changed, and back", x -> {
            x.keep();
            changeMuch(x);
            x.back();
        }, kept);
        change("back twice", x -> {
            x.keep();
            changeMuch(x);
            x.back();
            changeMuch(x);
            x.back();
        }, kept);
        change("what is not kept stays", x -> {
            x.keep();
            x.share(2, 4);
            x.sheet(3, 2, 1);
            x.check();
            x.ahead(3, 3);
            x.write(2, 0, 0);
            x.back();
        }, kept, "shares=1,0,4", "sheet3=1sort 2: 0", "waiting=0", "check=-2", "ring=3", "findings=1");
        change("kept anew", x -> {
            x.keep();
            x.put(3, 2);
            x.keep();
            x.put(3, 0);
        }, "back=4:4,3,5,2:1,1,2,2:0,9");
    }

    private static void refuse(String name, int finding, ToIntFunction<StationLine> call) {
        refused.put(name, call);
        findings.put(name, finding);
    }

    private static void refusedCalls() {
        refuse("time(9, 0, 1)", Edges.BAD, x -> x.time(9, 0, 1));
        refuse("time(0, 3, 1)", Edges.BAD, x -> x.time(0, 3, 1));
        refuse("time(0, 0, 0)", Edges.BAD, x -> x.time(0, 0, 0));
        refuse("time(0, 0, 101)", Edges.BAD, x -> x.time(0, 0, 101));
        refuse("share(3, 1)", Edges.BAD, x -> x.share(3, 1));
        refuse("share(0, 10)", Edges.BAD, x -> x.share(0, 10));
        refuse("share(1, -1)", Edges.BAD, x -> x.share(1, -1));
        refuse("ahead(0, 9)", Edges.BAD, x -> x.ahead(0, 9));
        refuse("ahead(-1, 0)", Edges.BAD, x -> x.ahead(-1, 0));
        refuse("free(9, 2)", Edges.BAD, x -> x.free(9, 2));
        refuse("free(0, -1)", Edges.BAD, x -> x.free(0, -1));
        refuse("ring(-1)", Edges.NONE, x -> x.ring(-1));
        refuse("ring(10)", Edges.NONE, x -> x.ring(10));
        refuse("pair(0, 9, 1)", Edges.BAD, x -> x.pair(0, 9, 1));
        refuse("pair(1, 1, 1)", Edges.BAD, x -> x.pair(1, 1, 1));
        refuse("pair(0, 1, 3)", Edges.BAD, x -> x.pair(0, 1, 3));
        refuse("hold(9, 1)", Edges.BAD, x -> x.hold(9, 1));
        refuse("hold(0, 11)", Edges.BAD, x -> x.hold(0, 11));
        refuse("line(4)", Edges.BAD, x -> x.line(4));
        refuse("beat(0)", Edges.BAD, x -> x.beat(0));
        refuse("beat(1001)", Edges.BAD, x -> x.beat(1001));
        refuse("of(9, 0)", Edges.BAD, x -> x.of(9, 0));
        refuse("of(0, 9)", Edges.BAD, x -> x.of(0, 9));
        refuse("put(9, 1)", Edges.BAD, x -> x.put(9, 1));
        refuse("put(0, 11)", Edges.BAD, x -> x.put(0, 11));
        refuse("cause(9)", Edges.BAD, x -> x.cause(9));
        refuse("station(0, 0)", Edges.BAD, x -> x.station(0, 0));
        refuse("station(1, 3)", Edges.BAD, x -> x.station(1, 3));
        refuse("leastBeat(0)", Edges.BAD, x -> x.leastBeat(0));
        refuse("leastBeat(11)", Edges.BAD, x -> x.leastBeat(11));
        refuse("bound(2)", Edges.BAD, x -> x.bound(2));
        refuse("early(9)", Edges.BAD, x -> x.early(9));
        refuse("late(9, 1)", Edges.BAD, x -> x.late(9, 1));
        refuse("late(0, 11)", Edges.BAD, x -> x.late(0, 11));
        refuse("rule(4)", Edges.BAD, x -> x.rule(4));
        refuse("count(6)", Edges.BAD, x -> x.count(6));
    }

    /** Sheet 2 is missing after all changes, whatever became of the others. */
    private static void refusedSheetCalls() {
        refuse("sheet(4, 0, 1)", Edges.BAD, x -> x.sheet(4, 0, 1));
        refuse("sheet(1, 3, 1)", Edges.BAD, x -> x.sheet(1, 3, 1));
        refuse("sheet(1, 0, 41)", Edges.BAD, x -> x.sheet(1, 0, 41));
        refuse("sheet(1, 0, -1)", Edges.SIZE, x -> x.sheet(1, 0, -1));
        refuse("write(4, 0, 1)", Edges.BAD, x -> x.write(4, 0, 1));
        refuse("write(2, 0, 1)", Edges.NOTHING, x -> x.write(2, 0, 1));
        refuse("write(1, 5, 1)", Edges.PLACE, x -> x.write(1, 5, 1));
        refuse("take(3, 1, 0, 0)", Edges.BAD, x -> x.take(3, 1, 0, 0));
        refuse("take(0, 4, 0, 0)", Edges.BAD, x -> x.take(0, 4, 0, 0));
        refuse("take(0, 1, 3, 0)", Edges.BAD, x -> x.take(0, 1, 3, 0));
        refuse("take(0, 2, 0, 0)", Edges.NOTHING, x -> x.take(0, 2, 0, 0));
        refuse("take(0, 1, 2, 0)", Edges.SORT, x -> x.take(0, 1, 2, 0));
        refuse("take(0, 1, 0, 2)", Edges.PLACE, x -> x.take(0, 1, 0, 2));
        refuse("lose(4)", Edges.BAD, x -> x.lose(4));
    }

    private static int dueOf(String call, String change) {
        boolean isOfSheetOne = call.matches("write.1.*|take.0, 1, [0-2].*");
        if (isOfSheetOne && change.equals("a sheet lost")) {
            return Edges.NOTHING;
        }
        boolean isOther = change.equals("a sheet laid anew") && call.equals("take(0, 1, 0, 2)");
        return isOther ? Edges.SORT : findings.get(call);
    }

    private static void refuseAfterAll() {
        for (Map.Entry<String, Consumer<StationLine>> change : changes.entrySet()) {
            Map<String, String> want = new LinkedHashMap<>();
            View.of(() -> after(change.getValue())).forEach((name, answer) -> want.put(name, name + "=" + answer));
            String found = want.get("findings");
            int before = Integer.parseInt(found.substring(found.indexOf('=') + 1));
            for (Map.Entry<String, ToIntFunction<StationLine>> call : refused.entrySet()) {
                edges.of(call.getKey() + " after " + change.getKey());
                int due = dueOf(call.getKey(), change.getKey());
                edges.due("it", call.getValue().applyAsInt(after(change.getValue())), due);
                want.put("findings", "findings=" + (due <= Edges.NOTHING ? before + 1 : before));
                same(View.of(() -> {
                    StationLine x = after(change.getValue());
                    call.getValue().applyAsInt(x);
                    return x;
                }), want);
            }
        }
    }
}

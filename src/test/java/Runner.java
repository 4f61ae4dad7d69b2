import java.util.ArrayList;
import java.util.List;
import java.util.Random;

/** Random calls on one object, each answer held against that of a plain model. */
final class Runner {
    static final String[] CALLS = {
        "task", "time", "share", "ahead", "free", "ring", "pair", "hold", "line", "beat", "of",
        "put", "cause", "clash", "station", "length", "squares",
        "fewest", "many", "best", "evenest", "leastBeat", "bound", "early", "late",
        "rule", "better", "sheet", "write", "take", "lose", "tell", "check", "keep", "back", "count"};

    private final Random random;
    final StationLine line = new StationLine();
    final PlainLine plain;
    private final List<String> log = new ArrayList<>();
    private final int mostTasks;
    private boolean isRight = true;
    /** Whether a call goes without others around it that set it up or look at what it did. */
    private boolean isAlone = false;

    Runner(long seed, int mostTasks, PlainLine plain) {
        random = new Random(seed);
        this.mostTasks = mostTasks;
        this.plain = plain;
    }

    int calls() {
        return log.size();
    }

    boolean isRight() {
        return isRight;
    }

    void callAlone(String name) {
        isAlone = true;
        call(name);
        isAlone = false;
    }

    int up(int bound) {
        return random.nextInt(bound);
    }

    /** Mostly within low .. high, now and then beside it or far away. */
    private int near(int low, int high) {
        int pick = up(40);
        if (pick == 0) {
            return low - 1;
        }
        if (pick == 1) {
            return high + 1;
        }
        if (pick == 2) {
            return up(2) == 0 ? Integer.MIN_VALUE : Integer.MAX_VALUE;
        }
        return low + up(high - low + 1);
    }

    private int aTask() {
        return near(0, Math.max(0, plain.n() - 1));
    }

    void due(String call, long got, long want) {
        log.add(call + " -> " + got);
        if (got != want && isRight) {
            isRight = false;
            for (String row : log) {
                System.out.println(row);
            }
            System.out.println("   due is " + want);
        }
    }

    void callAloneAny() {
        isAlone = true;
        callAny();
        isAlone = false;
    }

    /** One of all calls, with as many tasks as the model can bear. */
    void callAny() {
        String name = CALLS[up(CALLS.length)];
        if (!name.equals("task") || plain.n() < mostTasks) {
            call(name);
        }
    }

    void lookAtHand() {
        if (isAlone) {
            return;
        }
        for (int t = 0; t < 10; t++) {
            due("of " + t + " 7", line.of(t, 7), plain.of(t, 7));
        }
    }

    void lookAround() {
        for (int t = 0; t < plain.n() && isRight; t++) {
            for (int what = 0; what < 9; what++) {
                due("of " + t + " " + what, line.of(t, what), plain.of(t, what));
            }
        }
        for (int k = 0; k < 11 && isRight; k++) {
            due("ring " + k, line.ring(k), plain.ring(k));
            due("station " + k, line.station(k, 0), plain.station(k, 0));
        }
        for (int what = 0; what < 6 && isRight; what++) {
            due("count " + what, line.count(what), plain.count(what));
        }
    }

    void call(String name) {
        int t = aTask();
        int o = aTask();
        switch (name) {
            case "task" -> due(name, line.task(), plain.task());
            case "ahead" -> due(name + " " + t + " " + o, line.ahead(t, o), plain.ahead(t, o));
            case "free" -> due(name + " " + t + " " + o, line.free(t, o), plain.free(t, o));
            case "time" -> {
                int make = near(0, 2);
                int v = up(4) == 0 ? near(1, 100) : near(1, 12);
                due(name + " " + t + " " + make + " " + v, line.time(t, make, v), plain.time(t, make, v));
            }
            case "share" -> {
                int make = near(0, 2);
                int v = up(3) == 0 ? 0 : near(0, 9);
                due(name + " " + make + " " + v, line.share(make, v), plain.share(make, v));
            }
            case "pair" -> {
                int how = near(0, 2);
                due(name + " " + t + " " + o + " " + how, line.pair(t, o, how), plain.pair(t, o, how));
            }
            case "hold" -> {
                int k = up(3) == 0 ? near(0, 10) : up(4);
                due(name + " " + t + " " + k, line.hold(t, k), plain.hold(t, k));
            }
            case "beat" -> {
                int v = up(4) == 0 ? near(1, 1000) : near(5, 40);
                due(name + " " + v, line.beat(v), plain.beat(v));
            }
            case "of" -> {
                int what = near(0, 8);
                due(name + " " + t + " " + what, line.of(t, what), plain.of(t, what));
            }
            case "cause" -> due(name + " " + t, line.cause(t), plain.cause(t));
            case "early" -> due(name + " " + t, line.early(t), plain.early(t));
            case "put" -> putMany();
            default -> callMore(name, t);
        }
    }

    private void putMany() {
        for (int i = isAlone ? 2 : 0; i < 3; i++) {
            int t = aTask();
            int k = up(3) == 0 ? near(0, 10) : up(4);
            due("put " + t + " " + k, line.put(t, k), plain.put(t, k));
        }
    }

    private void callMore(String name, int t) {
        int k = near(1, 10);
        switch (name) {
            case "ring" -> due(name + " " + k, line.ring(k), plain.ring(k));
            case "line" -> {
                int kind = near(0, 3);
                due(name + " " + kind, line.line(kind), plain.line(kind));
            }
            case "clash" -> due(name, line.clash(), plain.clash());
            case "station" -> {
                int what = near(0, 2);
                due(name + " " + k + " " + what, line.station(k, what), plain.station(k, what));
            }
            case "length" -> due(name, line.length(), plain.length());
            case "squares" -> due(name, line.squares(), plain.squares());
            case "fewest" -> due(name, line.fewest(), plain.fewest());
            case "many" -> due(name, line.many(), plain.many());
            case "best" -> {
                boolean even = up(2) == 0;
                due(name + " " + even, line.best(even), plain.best(even));
                lookAtHand();
            }
            case "evenest" -> due(name, line.evenest(), plain.evenest());
            case "leastBeat" -> due(name + " " + k, line.leastBeat(k), plain.leastBeat(k));
            case "bound" -> {
                int which = near(0, 1);
                due(name + " " + which, line.bound(which), plain.bound(which));
            }
            case "late" -> due(name + " " + t + " " + k, line.late(t, k), plain.late(t, k));
            case "rule" -> {
                int which = near(0, 3);
                due(name + " " + which, line.rule(which), plain.rule(which));
                lookAtHand();
            }
            case "better" -> {
                due(name, line.better(), plain.better());
                lookAtHand();
            }
            default -> callHost(name);
        }
    }

    private void callHost(String name) {
        int s = near(0, 3);
        int sort = near(0, 2);
        switch (name) {
            case "sheet" -> {
                int n = up(8) == 0 ? near(0, 40) : up(12);
                due(name + " " + s + " " + sort + " " + n, line.sheet(s, sort, n), plain.sheet(s, sort, n));
            }
            case "write" -> {
                for (int j = isAlone ? 2 : 0; j < 3; j++) {
                    int i = near(0, 10);
                    int v = up(3) == 0 ? random.nextInt() : up(150) - 20;
                    due(name + " " + s + " " + i + " " + v, line.write(s, i, v), plain.write(s, i, v));
                }
            }
            case "take" -> {
                int make = near(0, 2);
                int i = near(0, 5);
                due(name + " " + make + " " + s + " " + sort + " " + i,
                        line.take(make, s, sort, i), plain.take(make, s, sort, i));
            }
            case "lose" -> due(name + " " + s, line.lose(s), plain.lose(s));
            case "tell" -> {
                int v = near(0, 10);
                due(name + " " + v, line.tell(v), plain.tell(v));
            }
            case "check" -> checkRow();
            case "keep" -> due(name, line.keep(), plain.keep());
            case "back" -> due(name, line.back(), plain.back());
            default -> {
                int what = near(0, 5);
                due(name + " " + what, line.count(what), plain.count(what));
            }
        }
    }

    private void checkRow() {
        for (int i = up(3) == 0 ? 0 : plain.waiting.size(); i < plain.n() && !isAlone; i++) {
            int v = up(6) == 0 ? near(0, 10) : 1 + up(3);
            due("tell " + v, line.tell(v), plain.tell(v));
        }
        due("check", line.check(), plain.check());
    }
}

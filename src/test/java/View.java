import java.util.LinkedHashMap;
import java.util.Map;
import java.util.function.Supplier;

/**
 * All that can be seen of an object of five tasks at most, by names. Calls that change something
 * are asked of an object of their own, so that each object stays far under its 512 calls.
 */
final class View {
    private static final int TASKS = 5;

    private final Supplier<StationLine> maker;
    private final Map<String, String> seen = new LinkedHashMap<>();

    private View(Supplier<StationLine> maker) {
        this.maker = maker;
    }

    static Map<String, String> of(Supplier<StationLine> maker) {
        View view = new View(maker);
        StationLine x = maker.get();
        view.tasks(x);
        view.hand(x);
        view.searches(x);
        view.bounds(x);
        view.puttings();
        view.sheets();
        view.told();
        return view.seen;
    }

    private void note(String name, long answer) {
        seen.put(name, Long.toString(answer));
    }

    private void tasks(StationLine x) {
        String[] counts = {"tasks", "waiting", "findings", "kind", "beat", "room"};
        for (int what = 0; what < 6; what++) {
            note(counts[what], x.count(what));
        }
        String[] ofs = {"time0", "time1", "time2", "ahead", "leading", "following", "held", "at", "load"};
        for (int what = 0; what < 9; what++) {
            seen.put(ofs[what], row(x, what));
        }
        StringBuilder ring = new StringBuilder();
        for (int k = 0; x.ring(k) >= 0; k++) {
            ring.append(x.ring(k));
        }
        seen.put("ring", ring.toString());
    }

    private static String row(StationLine x, int what) {
        StringBuilder row = new StringBuilder();
        for (int t = 0; t < TASKS && t < x.count(0); t++) {
            row.append(t == 0 ? "" : ",").append(x.of(t, what));
        }
        return row.toString();
    }

    private void hand(StationLine x) {
        StringBuilder causes = new StringBuilder();
        for (int t = 0; t < x.count(0); t++) {
            causes.append(x.cause(t));
        }
        seen.put("causes", causes.toString());
        note("clash", x.clash());
        String[] parts = {"sets", "loads", "left"};
        for (int what = 0; what < 3; what++) {
            StringBuilder row = new StringBuilder();
            for (int k = 1; k <= 3; k++) {
                row.append(k == 1 ? "" : ",").append(x.station(k, what));
            }
            seen.put(parts[what], row.toString());
        }
        note("length", x.length());
        note("squares", x.squares());
    }

    private void searches(StationLine x) {
        note("fewest", x.fewest());
        note("many", x.many());
        note("evenest", x.evenest());
        StringBuilder beats = new StringBuilder();
        for (int m = 1; m <= 4; m++) {
            beats.append(m == 1 ? "" : ",").append(x.leastBeat(m));
        }
        seen.put("leastBeats", beats.toString());
    }

    private void bounds(StationLine x) {
        note("bound0", x.bound(0));
        note("bound1", x.bound(1));
        StringBuilder early = new StringBuilder();
        StringBuilder late = new StringBuilder();
        for (int t = 0; t < x.count(0); t++) {
            early.append(t == 0 ? "" : ",").append(x.early(t));
            late.append(t == 0 ? "" : ",").append(x.late(t, 3));
        }
        seen.put("early", early.toString());
        seen.put("late", late.toString());
    }

    private void puttings() {
        for (int i = 0; i < 7; i++) {
            StationLine x = maker.get();
            String name = i == 0 ? "best" : i == 1 ? "even" : i < 6 ? "rule" + (i - 2) : "better";
            int answer = i < 2 ? x.best(i == 1) : i < 6 ? x.rule(i - 2) : x.better();
            seen.put(name, answer + ":" + row(x, 7));
        }
    }

    /** The numbers of the sheets by what write() says that they were, their sort by take(). */
    private void sheets() {
        StationLine x = maker.get();
        for (int s = 0; s < 4; s++) {
            StringBuilder row = new StringBuilder();
            for (int sort = 0; sort < 3; sort++) {
                row.append(x.take(0, s, sort, -1) == -11 ? "sort " + sort + ":" : "");
            }
            for (int i = 0; i < 6; i++) {
                int was = x.write(s, i, 0);
                row.append(was == -10 || was == -11 ? "" : " " + was);
            }
            seen.put("sheet" + s, x.lose(s) + row.toString());
        }
        StringBuilder shares = new StringBuilder();
        for (int make = 0; make < 3; make++) {
            shares.append(make == 0 ? "" : ",").append(x.share(make, 9));
        }
        seen.put("shares", shares.toString());
        StringBuilder pairs = new StringBuilder();
        for (int a = 0; a < x.count(0); a++) {
            for (int b = a + 1; b < x.count(0); b++) {
                int how = x.pair(a, b, 0);
                pairs.append(how == 0 ? "" : " " + a + b + "=" + how);
            }
        }
        seen.put("pairs", pairs.toString());
    }

    private void told() {
        note("check", maker.get().check());
        StationLine x = maker.get();
        int tasks = x.back();
        String was = tasks < 0 ? "" : ":" + row(x, 0) + ":" + row(x, 7) + ":" + x.count(3) + "," + x.count(4);
        seen.put("back", tasks + was);
    }
}

/** Short random runs of calls, each answer held against that of a plain model. */
public final class OracleTest {
    private final Runner runner;
    private final int mostTasks;

    private OracleTest(long seed, int mostTasks, PlainLine plain) {
        runner = new Runner(seed, mostTasks, plain);
        this.mostTasks = mostTasks;
    }

    public static void main(String[] args) {
        int wrong = 0;
        int calls = 0;
        for (int seed = 0; seed < 4000 && wrong < 3; seed++) {
            // The two models are held against each other by the runs that both can bear.
            PlainLine plain = seed % 4 == 3 ? new WideLine() : new PlainLine();
            OracleTest test = new OracleTest(seed, 3 + seed % 3, plain);
            test.run();
            calls += test.runner.calls();
            wrong += test.runner.isRight() ? 0 : 1;
        }
        for (int seed = 0; seed < 120 && wrong < 3; seed++) {
            PlainLine plain = seed % 2 == 1 ? new WideLine() : new PlainLine();
            OracleTest test = new OracleTest(1000000 + seed, 10, plain);
            test.runWide(seed % 2 == 1 ? 2 + seed % 7 : 2);
            calls += test.runner.calls();
            wrong += test.runner.isRight() ? 0 : 1;
        }
        System.out.println("OracleTest: " + calls + " calls, " + wrong + " runs wrong");
        if (wrong != 0) {
            System.exit(1);
        }
    }

    private void run() {
        int tasks = runner.up(mostTasks + 1);
        for (int t = 0; t < tasks; t++) {
            runner.call("task");
        }
        for (int i = 0; i < tasks; i++) {
            runner.call("ahead");
            runner.call("time");
        }
        for (int i = 0; i < 60 && runner.isRight(); i++) {
            runner.callAny();
        }
        runner.lookAround();
    }

    /** Up to ten tasks on a line of about so many stations: wide sets, which small runs don't reach. */
    private void runWide(int stations) {
        StationLine line = runner.line;
        PlainLine plain = runner.plain;
        int tasks = 7 + runner.up(4);
        for (int t = 0; t < tasks; t++) {
            runner.call("task");
        }
        int kind = runner.up(4);
        runner.due("line " + kind, line.line(kind), plain.line(kind));
        int sum = 0;
        for (int t = 0; t < tasks; t++) {
            int v = 1 + runner.up(30);
            sum += v;
            for (int make = 0; make < 3; make++) {
                int time = make == 0 ? v : 1 + runner.up(30);
                runner.due("time", line.time(t, make, time), plain.time(t, make, time));
            }
        }
        for (int i = runner.up(8); i > 0; i--) {
            runner.call("ahead");
        }
        if (runner.up(2) == 0) {
            runner.call("pair");
        }
        int beat = Math.max(1, sum / stations - runner.up(sum / 8 + 1));
        runner.due("beat " + beat, line.beat(beat), plain.beat(beat));
        for (String name : new String[] {"fewest", "many", "evenest", "best", "best", "rule", "better"}) {
            if (runner.isRight()) {
                runner.call(name);
                runner.lookAtHand();
            }
        }
    }
}

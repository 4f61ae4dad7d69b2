/**
 * Runs of just 512 calls on one object, the most that it is used for: each answer is held against
 * that of a plain model, and each call of the face comes as the 512th.
 */
public final class LongRunTest {
    private static final int CALLS = 512;
    /** The most that one round of a call and the calls around it makes. */
    private static final int ROUND = 24;

    private static int runs = 0;
    private static int wrong = 0;

    public static void main(String[] args) {
        for (int seed = 0; seed < 8 * Runner.CALLS.length && wrong < 3; seed++) {
            // All tasks that the small model bears, or the many that the wide one does.
            boolean wide = seed % 5 == 4;
            int most = wide ? 10 : 4;
            Runner runner = new Runner(5000000 + seed, most, wide ? new WideLine() : new PlainLine());
            for (int t = runner.up(most + 1); t > 0; t--) {
                runner.call("task");
            }
            run(runner, Runner.CALLS[seed % Runner.CALLS.length]);
        }
        System.out.println("LongRunTest: " + runs + " runs of " + CALLS + " calls, " + wrong + " wrong");
        if (wrong != 0) {
            System.exit(1);
        }
    }

    private static void run(Runner runner, String lastCall) {
        while (runner.calls() + ROUND < CALLS && runner.isRight()) {
            runner.callAny();
        }
        while (runner.calls() < CALLS - 1 && runner.isRight()) {
            runner.callAloneAny();
        }
        runner.callAlone(lastCall);
        runs++;
        boolean full = runner.calls() == CALLS;
        if (runner.isRight() && !full) {
            System.out.println("LongRunTest: a run had " + runner.calls() + " calls");
        }
        wrong += runner.isRight() && full ? 0 : 1;
    }
}

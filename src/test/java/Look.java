import java.util.ArrayList;
import java.util.List;

/**
 * Reads all that can be seen of an object, for comparing two of them. Reading uses the object up
 * (sheets are lost, what waits is judged), and is cut into parts so that an object that was set up
 * by some hundred calls stays under its 512.
 */
final class Look {
    static final int PARTS = 4;

    private Look() {
    }

    static List<Long> at(StationLine x, int part) {
        List<Long> seen = new ArrayList<>();
        switch (part) {
            case 0 -> tasksAndHand(x, seen);
            case 1 -> linksAndCounts(x, seen);
            case 2 -> sheets(x, seen);
            default -> waitingAndKept(x, seen);
        }
        return seen;
    }

    private static void tasksAndHand(StationLine x, List<Long> seen) {
        for (int t = 0; t < 10; t++) {
            for (int what = 0; what < 9; what++) {
                seen.add((long) x.of(t, what));
            }
            seen.add((long) x.cause(t));
        }
        for (int k = 1; k <= 10; k++) {
            for (int what = 0; what < 3; what++) {
                seen.add((long) x.station(k, what));
            }
        }
        seen.add((long) x.clash());
        seen.add((long) x.length());
        seen.add(x.squares());
    }

    private static void linksAndCounts(StationLine x, List<Long> seen) {
        for (int k = 0; k < 11; k++) {
            seen.add((long) x.ring(k));
        }
        // The findings of the host are left to whoever looks: they may have grown.
        for (int what : new int[] {0, 1, 3, 4, 5}) {
            seen.add((long) x.count(what));
        }
        for (int a = 0; a < 10; a++) {
            for (int b = 0; b < a; b++) {
                seen.add((long) x.pair(a, b, 0));
            }
        }
        for (int make = 0; make < 3; make++) {
            seen.add((long) x.share(make, 9));
        }
    }

    private static void sheets(StationLine x, List<Long> seen) {
        for (int s = 0; s < 4; s++) {
            long was = 0;
            for (int i = 0; i <= 40 && was != -11 && was != -10; i++) {
                was = x.write(s, i, 0);
                seen.add(was);
            }
            for (int sort = 0; sort < 3; sort++) {
                seen.add((long) x.take(0, s, sort, -1));
            }
            seen.add((long) x.lose(s));
        }
    }

    private static void waitingAndKept(StationLine x, List<Long> seen) {
        seen.add((long) x.check());
        seen.add((long) x.back());
        for (int t = 0; t < 10; t++) {
            for (int what = 0; what < 9; what++) {
                seen.add((long) x.of(t, what));
            }
        }
        for (int what : new int[] {0, 1, 3, 4, 5}) {
            seen.add((long) x.count(what));
        }
        for (int a = 0; a < 10; a++) {
            for (int b = 0; b < a; b++) {
                seen.add((long) x.pair(a, b, 0));
            }
        }
    }
}

/** The boundary cases that promises 24 to 28 name, the answers worked out by hand. */
public final class EdgeRuleTest {
    private static final Edges edges = new Edges("EdgeRuleTest");

    public static void main(String[] args) {
        boundByTimes();
        boundByTimesOfEach();
        boundByHalves();
        boundByHalvesOfKinds();
        earlyAtTheEdge();
        lateAtTheEdge();
        rulesThatEnd();
        rulesTakeWhatJustFits();
        rulesOfSeveralTheLeast();
        rulesGoByFollowing();
        rulesFillTenStations();
        rulesBent();
        rulesReplaceTheHand();
        betterOfWhatIsNotRight();
        betterStopsAtEqual();
        betterStaysWithinLength();
        betterTakesTheFirstMove();
        betterStaysRight();
        edges.end();
    }

    private static void boundByTimes() {
        edges.of("24: the LOAD of all tasks by ROOM, the fraction taken up");
        StationLine x = Edges.with(10, 10);
        edges.due("20 by 10", x.bound(0), 2);
        x.time(1, 0, 11);
        edges.due("21 by 10", x.bound(0), 3);
        x.time(1, 0, 9);
        edges.due("19 by 10", x.bound(0), 2);
        x.beat(19);
        edges.due("19 by 19", x.bound(0), 1);
        x.beat(20);
        edges.due("19 by 20", x.bound(0), 1);
        x.beat(18);
        edges.due("19 by 18", x.bound(0), 2);
        StationLine y = Edges.shared(Edges.tenOf(100), 9, 9, 9);
        y.beat(1);
        for (int kind = 0; kind < 4; kind++) {
            y.line(kind);
            edges.due("the greatest, KIND " + kind, y.bound(0), 1000);
        }
        y.beat(1000);
        for (int kind = 0; kind < 4; kind++) {
            y.line(kind);
            edges.due("one station, KIND " + kind, y.bound(0), 1);
        }
    }

    private static void boundByTimesOfEach() {
        edges.of("24: of an EACH line the greatest such by its MAKES");
        StationLine x = Edges.shared(Edges.with(5, 5), 1, 1, 0);
        x.time(0, 1, 10);
        x.time(0, 2, 100);
        x.line(Edges.EACH);
        edges.due("10 and 11 by 10", x.bound(0), 2);
        x.share(1, 0);
        edges.due("10 by 10", x.bound(0), 1);
        x.share(2, 1);
        edges.due("101 by 10", x.bound(0), 11);
        x.line(Edges.MEAN);
        edges.due("10 + 101 by 20", x.bound(0), 6);
    }

    private static void boundByHalves() {
        edges.of("24: LOAD taken twice is above ROOM, or is ROOM, and half of those (taken up)");
        StationLine x = new StationLine();
        int[] due = {0, 1, 1, 2, 2, 3, 3, 4, 4, 5, 5};
        for (int n = 1; n <= 10; n++) {
            x.task();
            x.time(n - 1, 0, 5);
            edges.due(n + " halves", x.bound(1), due[n]);
        }
        for (int t = 0; t < 10; t++) {
            x.time(t, 0, 6);
            edges.due(t + 1 + " above", x.bound(1), t + 1 + due[9 - t]);
        }
        for (int t = 0; t < 10; t++) {
            x.time(t, 0, 4);
            edges.due(t + 1 + " below", x.bound(1), 9 - t);
        }
        edges.of("24: an odd ROOM has no half");
        StationLine y = Edges.with(4, 5);
        y.beat(9);
        edges.due("4 is below, 5 above", y.bound(1), 1);
        StationLine z = Edges.with(1);
        z.beat(1);
        edges.due("1 twice is above 1", z.bound(1), 1);
        z.beat(2);
        edges.due("1 twice is 2", z.bound(1), 1);
        z.beat(3);
        edges.due("1 twice is below 3", z.bound(1), 0);
    }

    private static void boundByHalvesOfKinds() {
        edges.of("24: by LOADS of single tasks, of any KIND");
        StationLine x = Edges.shared(Edges.with(4, 4), 1, 1, 0);
        x.time(0, 1, 6);
        x.line(Edges.MEAN);
        edges.due("10 twice is 20, 5 twice is not", x.bound(1), 1);
        x.time(1, 1, 6);
        edges.due("two halves", x.bound(1), 1);
        x.time(1, 1, 7);
        edges.due("one half, one above", x.bound(1), 2);
        x.line(Edges.EACH);
        x.time(1, 0, 5);
        x.time(1, 1, 5);
        edges.due("6 is above, 5 is half", x.bound(1), 2);
        x.share(1, 0);
        edges.due("4 is below, 5 is half", x.bound(1), 1);
        edges.of("24: of an EACH line 1 can be above THE FEWEST");
        StationLine y = Edges.shared(Edges.with(6, 1, 1), 1, 1, 1);
        y.time(1, 1, 6);
        y.time(2, 2, 6);
        y.line(Edges.EACH);
        edges.due("three above half", y.bound(1), 3);
        edges.due("fewest", y.fewest(), 1);
    }

    private static void earlyAtTheEdge() {
        edges.of("25: the LOAD of it and of all LEADING it, by ROOM, taken up");
        StationLine x = Edges.chained(Edges.with(4, 6, 1, 9));
        edges.due("4 by 10", x.early(0), 1);
        edges.due("10 by 10", x.early(1), 1);
        edges.due("11 by 10", x.early(2), 2);
        edges.due("20 by 10", x.early(3), 2);
        StationLine y = Edges.shared(Edges.chained(Edges.tenOf(100)), 9, 9, 9);
        y.beat(1);
        for (int kind = 0; kind < 4; kind++) {
            y.line(kind);
            edges.due("one task, KIND " + kind, y.early(0), 100);
            edges.due("ten tasks, KIND " + kind, y.early(9), 1000);
        }
        y.beat(1000);
        edges.due("ten within one", y.early(9), 1);
        y.beat(999);
        edges.due("one less", y.early(9), 2);
        edges.of("25: of an EACH line by the greatest sum");
        StationLine z = Edges.shared(Edges.chained(Edges.with(9, 1)), 1, 1, 0);
        z.time(1, 1, 9);
        z.line(Edges.EACH);
        edges.due("10 and 10 by 10", z.early(1), 1);
        z.time(0, 1, 2);
        edges.due("10 and 11 by 10", z.early(1), 2);
    }

    private static void lateAtTheEdge() {
        edges.of("26: m and 1 less the LOAD of it and all FOLLOWING it, by ROOM, taken up");
        StationLine x = Edges.chained(Edges.with(9, 1, 6, 4));
        edges.due("20 by 10", x.late(0, 10), 9);
        edges.due("11 by 10", x.late(1, 10), 9);
        edges.due("10 by 10", x.late(2, 10), 10);
        edges.due("4 by 10", x.late(3, 10), 10);
        edges.due("for 1", x.late(3, 1), 1);
        edges.due("for 1, nought", x.late(0, 1), 0);
        edges.of("26: below 0 it is no finding");
        StationLine y = Edges.with(3);
        y.beat(1);
        edges.due("-1", y.late(0, 1), -1);
        y.time(0, 0, 4);
        edges.due("-2", y.late(0, 1), -2);
        y.time(0, 0, 12);
        edges.due("-10", y.late(0, 1), -10);
        edges.due("it is not counted", y.count(2), 0);
        StationLine z = Edges.shared(Edges.chained(Edges.tenOf(100)), 9, 9, 9);
        z.beat(1);
        for (int kind = 0; kind < 4; kind++) {
            z.line(kind);
            edges.due("ten tasks, KIND " + kind, z.late(0, 1), -998);
            edges.due("one task, KIND " + kind, z.late(9, 10), -89);
        }
    }

    private static void rulesThatEnd() {
        edges.of("27: NONE, a single task's LOAD is above ROOM: THE HAND is as it was");
        StationLine x = Edges.with(1, 10);
        x.ahead(0, 1);
        Edges.putAll(x, 10, 0);
        for (int which = 0; which < 4; which++) {
            x.beat(9);
            edges.due("above by one", x.rule(which), Edges.NONE);
            edges.hand(x, 10, 0);
            x.beat(10);
            edges.due("just ROOM", x.rule(which), 2);
            edges.hand(x, 1, 2);
            Edges.putAll(x, 10, 0);
        }
        x.beat(9);
        edges.due("BAD before NONE", x.rule(4), Edges.BAD);
        edges.due("BAD before NONE", x.rule(-1), Edges.BAD);
        edges.of("27: of an EACH line by its greatest TIME");
        StationLine y = Edges.shared(Edges.with(1), 1, 1, 0);
        y.time(0, 1, 11);
        y.line(Edges.EACH);
        edges.due("11 of 10", y.rule(0), Edges.NONE);
        y.share(1, 0);
        edges.due("1 of 10", y.rule(0), 1);
    }

    private static void rulesTakeWhatJustFits() {
        edges.of("27: with which the station's LOAD is not above ROOM");
        StationLine x = Edges.with(6, 4, 5, 5);
        edges.due("just two and two", x.rule(3), 2);
        edges.hand(x, 1, 1, 2, 2);
        x.time(1, 0, 5);
        edges.due("5 + 5, then 5", x.rule(3), 3);
        edges.hand(x, 1, 2, 2, 3);
        x.time(3, 0, 4);
        edges.due("a later one fits", x.rule(3), 2);
        edges.hand(x, 1, 2, 2, 1);
        edges.of("27: what is TOGETHER, APART, HELD doesn't count");
        x.pair(0, 3, 2);
        x.pair(0, 1, 1);
        x.hold(0, 10);
        edges.due("as before", x.rule(3), 2);
        edges.hand(x, 1, 2, 2, 1);
        edges.due("not RIGHT, though", x.clash(), 0);
    }

    private static void rulesOfSeveralTheLeast() {
        edges.of("27: of several the least number");
        StationLine x = Edges.tenOf(5);
        for (int which = 0; which < 4; which++) {
            edges.due("two at each", x.rule(which), 5);
            edges.hand(x, 1, 1, 2, 2, 3, 3, 4, 4, 5, 5);
        }
        edges.of("27: 0 the greatest LOAD");
        x.time(9, 0, 6);
        x.time(0, 0, 4);
        edges.due("9 and 0 first", x.rule(0), 5);
        edges.hand(x, 1, 2, 2, 3, 3, 4, 4, 5, 5, 1);
        edges.of("27: 3 the least number");
        edges.due("0 and 9 at last", x.rule(3), 6);
        edges.hand(x, 1, 1, 2, 2, 3, 3, 4, 4, 5, 6);
    }

    private static void rulesGoByFollowing() {
        edges.of("27: 1 the greatest LOAD of it and all FOLLOWING it");
        StationLine x = Edges.with(5, 4, 2, 3);
        x.ahead(1, 2);
        edges.due("6, then 5", x.rule(1), 2);
        edges.hand(x, 1, 1, 2, 2);
        edges.due("by LOAD: 5, 4, then 3, 2", x.rule(0), 2);
        edges.hand(x, 1, 1, 2, 2);
        x.beat(7);
        edges.due("1 and 3, 0 and 2", x.rule(1), 2);
        edges.hand(x, 2, 1, 2, 1);
        edges.of("27: 2 the most FOLLOWING it, all of them, not the next alone");
        StationLine y = Edges.with(3, 3, 3, 3, 3, 3);
        y.ahead(0, 1);
        y.ahead(0, 2);
        y.ahead(3, 4);
        y.ahead(4, 5);
        y.ahead(5, 1);
        y.beat(3);
        edges.due("3 of 3, 0 of 2, 4 of 2, 5 of 1, 1, 2", y.rule(2), 6);
        edges.hand(y, 2, 5, 6, 1, 3, 4);
        y.free(5, 1);
        edges.due("0 of 2, 3 of 2, 4 of 1, 1, 2, 5", y.rule(2), 6);
        edges.hand(y, 1, 4, 5, 2, 3, 6);
    }

    private static void rulesFillTenStations() {
        edges.of("27: ten tasks, ten stations");
        StationLine x = Edges.tenOf(10);
        for (int which = 0; which < 4; which++) {
            edges.due("one at each", x.rule(which), 10);
            edges.hand(x, 1, 2, 3, 4, 5, 6, 7, 8, 9, 10);
        }
        for (int t = 1; t < 10; t++) {
            x.ahead(t, t - 1);
        }
        for (int which = 0; which < 4; which++) {
            edges.due("in a chain", x.rule(which), 10);
            edges.hand(x, 10, 9, 8, 7, 6, 5, 4, 3, 2, 1);
        }
        x.beat(100);
        edges.due("all at one", x.rule(0), 1);
        edges.due("set", x.station(1, 0), 1023);
        x.beat(99);
        edges.due("but the last", x.rule(0), 2);
        edges.due("set", x.station(2, 0), 1);
    }

    private static void rulesBent() {
        edges.of("27: of a BENT line: or all FOLLOWING which have a station");
        StationLine x = Edges.chained(Edges.with(1, 8, 3, 7, 2));
        edges.due("straight", x.rule(0), 3);
        edges.hand(x, 1, 1, 2, 2, 3);
        x.line(Edges.BENT);
        edges.due("2 7 1, 8, 3", x.rule(0), 3);
        edges.hand(x, 1, 2, 3, 1, 1);
        edges.due("RIGHT", x.clash(), -1);
        edges.due("by number: 0 1, 2 3, 4", x.rule(3), 3);
        edges.hand(x, 1, 1, 2, 2, 3);
        x.beat(8);
        edges.due("0 4, 1, 2, 3", x.rule(3), 4);
        edges.hand(x, 1, 2, 3, 4, 1);
    }

    private static void rulesReplaceTheHand() {
        edges.of("27: what was there goes");
        StationLine x = Edges.with(6, 6);
        Edges.putAll(x, 10, 10);
        edges.due("its LENGTH", x.rule(0), 2);
        edges.due("LENGTH", x.length(), 2);
        edges.hand(x, 1, 2);
        x.beat(12);
        edges.due("its LENGTH", x.rule(0), 1);
        edges.hand(x, 1, 1);
    }

    private static void betterOfWhatIsNotRight() {
        edges.of("28: NONE, it is not RIGHT");
        StationLine x = Edges.with(5, 4, 1);
        Edges.putAll(x, 1, 1, 0);
        edges.due("one has no station", x.better(), Edges.NONE);
        edges.hand(x, 1, 1, 0);
        x.put(2, 1);
        edges.due("just ROOM", x.better(), 0);
        x.beat(9);
        edges.due("above ROOM", x.better(), Edges.NONE);
        edges.hand(x, 1, 1, 1);
        Edges.putAll(x, 1, 1, 2);
        x.hold(2, 3);
        edges.due("HELD elsewhere", x.better(), Edges.NONE);
        edges.hand(x, 1, 1, 2);
        x.hold(2, 2);
        edges.due("HELD there: from 9, 1 to 4, 6", x.better(), 1);
        edges.hand(x, 2, 1, 2);
    }

    private static void betterStopsAtEqual() {
        edges.of("28: the sum of the squares of LOADS is less");
        StationLine x = Edges.with(5, 1);
        Edges.putAll(x, 2, 1);
        edges.due("a change of places is no less", x.better(), 0);
        edges.hand(x, 2, 1);
        StationLine y = Edges.with(3, 3, 3);
        Edges.putAll(y, 1, 1, 2);
        edges.due("6 and 3 for 3 and 6", y.better(), 0);
        edges.hand(y, 1, 1, 2);
        y.time(0, 0, 2);
        edges.due("5 and 3 for 3 and 5", y.better(), 0);
        y.time(2, 0, 2);
        edges.due("5 and 2 for 3 and 4", y.better(), 1);
        edges.hand(y, 2, 1, 2);
    }

    private static void betterStaysWithinLength() {
        edges.of("28: stations from 1 to its LENGTH");
        StationLine x = Edges.tenOf(1);
        Edges.putAll(x, 1, 1, 1, 1, 1, 1, 1, 1, 1, 1);
        edges.due("LENGTH 1", x.better(), 0);
        x.put(9, 10);
        // Each one but the last goes to 2 first, and on when the next one comes there.
        edges.due("to the empty ones too", x.better(), 14);
        edges.hand(x, 3, 4, 5, 6, 7, 8, 2, 9, 1, 10);
        edges.due("no more", x.better(), 0);
        StationLine y = Edges.with(1, 1);
        Edges.putAll(y, 2, 2);
        edges.due("station 1 is empty", y.better(), 1);
        edges.hand(y, 1, 2);
        Edges.putAll(y, 10, 10);
        edges.due("from 10 to 1", y.better(), 1);
        edges.hand(y, 1, 10);
    }

    private static void betterTakesTheFirstMove() {
        edges.of("28: the least task, then the least station");
        StationLine x = Edges.with(1, 3, 3);
        Edges.putAll(x, 3, 3, 3);
        edges.due("0 to 1, 1 to 1, 0 to 2", x.better(), 3);
        edges.hand(x, 2, 1, 3);
        edges.of("28: the first move, not the greatest gain");
        StationLine y = Edges.with(1, 5, 4);
        Edges.putAll(y, 1, 1, 2);
        edges.due("0 to 2", y.better(), 1);
        edges.hand(y, 2, 1, 2);
        edges.due("squares", y.squares(), 50);
        edges.of("28: again and again from the first task");
        StationLine z = Edges.with(2, 3, 4);
        Edges.putAll(z, 1, 1, 2);
        z.ahead(1, 0);
        edges.due("0 to 2 makes 3 and 6: no; 1 can't go: none", z.better(), 0);
        z.time(2, 0, 2);
        edges.due("0 to 2 makes 3 and 4", z.better(), 1);
        edges.hand(z, 2, 1, 2);
    }

    private static void betterStaysRight() {
        edges.of("28: by which it stays RIGHT");
        StationLine x = Edges.chained(Edges.with(1, 1, 1));
        Edges.putAll(x, 1, 1, 2);
        x.time(0, 0, 5);
        edges.due("0 can't go behind 1; 1 goes", x.better(), 1);
        edges.hand(x, 1, 2, 2);
        Edges.putAll(x, 2, 2, 2);
        edges.due("0 goes ahead", x.better(), 1);
        edges.hand(x, 1, 2, 2);
        StationLine y = Edges.with(4, 4, 1);
        Edges.putAll(y, 1, 1, 2);
        y.pair(0, 2, 2);
        edges.due("0 is APART from 2; 1 goes", y.better(), 1);
        edges.hand(y, 1, 2, 2);
        Edges.putAll(y, 1, 1, 2);
        y.pair(0, 1, 1);
        edges.due("0 and 1 stay TOGETHER", y.better(), 0);
        StationLine z = Edges.chained(Edges.with(4, 4, 1, 1));
        z.line(Edges.BENT);
        Edges.putAll(z, 1, 1, 2, 2);
        edges.due("0 can't; 1 can; 3 can, from the other end", z.better(), 2);
        edges.hand(z, 1, 2, 2, 1);
        z.line(Edges.LINE);
        Edges.putAll(z, 1, 1, 2, 2);
        edges.due("straight: 1 alone", z.better(), 1);
        edges.hand(z, 1, 2, 2, 2);
    }
}

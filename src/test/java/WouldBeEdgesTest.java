import java.math.BigInteger;

/** Promises 23 to 27: a test for each sentence that names an edge of what would be, and of the checksum. */
public final class WouldBeEdgesTest {
    private static final Checks c = new Checks();

    public static void main(String[] args) {
        burningInWithWait();
        burningInOfOneThatIsPending();
        burningInOfOneThatBurns();
        burningInCountsAnew();
        burningInOfOneThatGoesAndComes();
        burningInOfAllAsTheyAre();
        burningInAsSamplesFallBehind();
        burningInOfPartsThatFade();
        burningInOfPartsThatGrow();
        burningInOfFewSamples();
        burningInOfNone();
        burningInIgnoresHushes();
        nothingIsChanged();
        beyondJustTheLimit();
        beyondOfEachKey();
        beyondOfLimitsAtTheMost();
        calmIsTheLeastOrTheGreatest();
        calmOfEachKey();
        calmOutsideOfLimits();
        calmWithoutKeys();
        loudWithoutOneThatIsOver();
        loudWithoutOneOfTwo();
        loudWithoutOneThatHushesTheLouder();
        loudWithoutOneForTheLastKey();
        checksumOfANewObject();
        checksumWrapsAround();
        checksumOfNumbersBelowZero();
        checksumOfJustTheLimit();
        checksumOfPendingOnes();
        checksumOfNoticesKept();
        c.end();
    }

    /** One GAUGE, and RULE 0 of it, ABOVE 5. */
    private static HarbourlightMonitor watched(int wait) {
        HarbourlightMonitor x = new HarbourlightMonitor();
        x.series(1, 0, 0);
        x.rule(0, 0, 1, 0, 5, true);
        x.setRule(0, 5, wait, 0);
        return x;
    }

    private static HarbourlightMonitor looking(int kind, int look, int w, int limit, boolean isAbove) {
        HarbourlightMonitor x = new HarbourlightMonitor();
        x.series(kind, 0, 0);
        x.rule(0, look, w, 0, limit, isAbove);
        return x;
    }

    /** One TICK for each value of SERIES 0. */
    private static void pass(HarbourlightMonitor x, int... values) {
        for (int value : values) {
            x.tell(0, value);
            x.tick(1);
        }
    }

    private static void burning(HarbourlightMonitor x, int... due) {
        for (int i = 0; i < due.length; i++) {
            c.due("burningIn(" + (i + 1) + ") at " + x.clock(), x.burningIn(i + 1), due[i]);
        }
    }

    private static void burningInWithWait() {
        c.says("Returns how many ALERTS would BURN then.");
        int[][] due = {
            {1, 1, 1, 1, 1, 1, 1, 1, 1, 1}, {0, 1, 1, 1, 1, 1, 1, 1, 1, 1}, {0, 0, 1, 1, 1, 1, 1, 1, 1, 1},
            {0, 0, 0, 0, 0, 0, 0, 0, 0, 1}, {0, 0, 0, 0, 0, 0, 0, 0, 0, 0}, {0, 0, 0, 0, 0, 0, 0, 0, 0, 0},
        };
        int[] waits = {0, 1, 2, 9, 10, 20};
        for (int i = 0; i < waits.length; i++) {
            HarbourlightMonitor x = watched(waits[i]);
            x.tell(0, 6);
            burning(x, due[i]);
            c.due("none has come", x.many(3), 0);
        }
        HarbourlightMonitor y = watched(0);
        y.tell(0, 5);
        burning(y, 0, 0, 0, 0, 0, 0, 0, 0, 0, 0);
    }

    private static void burningInOfOneThatIsPending() {
        c.says("how many TICKS would go by, with all SERIES as they are");
        HarbourlightMonitor x = watched(12);
        pass(x, 6);
        burning(x, 0, 0, 0, 0, 0, 0, 0, 0, 0, 0);
        pass(x, 6, 6);
        burning(x, 0, 0, 0, 0, 0, 0, 0, 0, 0, 1);
        pass(x, 6, 6, 6, 6, 6, 6, 6, 6, 6);
        c.due("one TICK ahead of it", x.alert(0, 0, 0), 1);
        burning(x, 1, 1);
        x.tell(0, 5);
        burning(x, 0, 0, 0, 0);
    }

    private static void burningInOfOneThatBurns() {
        c.says("one that BURNS goes with the third TICK in a row with which it is not");
        HarbourlightMonitor x = watched(0);
        pass(x, 6);
        x.tell(0, 5);
        burning(x, 1, 1, 0, 0, 0, 0, 0, 0, 0, 0);
        x.tick(1);
        burning(x, 1, 0, 0);
        x.tick(1);
        burning(x, 0, 0, 0);
        c.due("it BURNS now", x.many(4), 1);
    }

    private static void burningInCountsAnew() {
        c.says("(counted anew as it is again)");
        HarbourlightMonitor x = watched(0);
        pass(x, 6, 5, 5);
        x.tell(0, 6);
        burning(x, 1, 1, 1, 1);
        x.tick(1);
        x.tell(0, 5);
        burning(x, 1, 1, 0);
        HarbourlightMonitor y = looking(0, 1, 1, 5, true);
        y.tick(1);
        y.tell(0, 9);
        y.tick(3);
        y.tell(0, 9);
        // It grew with the TICK to 2, did not with 3 and 4, grows with 5, does not with 6, 7 and 8.
        burning(y, 1, 1, 1, 0, 0);
    }

    private static void burningInOfOneThatGoesAndComes() {
        c.says("with all SERIES as they are");
        HarbourlightMonitor x = looking(0, 1, 1, 1, false);
        x.tick(1);
        x.tell(0, 9);
        x.tick(1);
        c.due("gone, as it has grown", x.many(4), 1);
        x.tick(2);
        x.tell(0, 9);
        x.setRule(0, 1, 3, 0);
        burning(x, 1, 1, 1);
        HarbourlightMonitor y = looking(0, 1, 1, 1, false);
        y.setRule(0, 1, 3, 0);
        y.tick(2);
        y.tell(0, 9);
        // PENDING since 1; goes with the TICK to 3; comes anew with 4, and BURNS with 7.
        burning(y, 0, 0, 0, 0, 1, 1);
    }

    private static void burningInOfAllAsTheyAre() {
        c.says("with all SERIES as they are");
        HarbourlightMonitor x = watched(0);
        pass(x, 1);
        x.tell(0, 9);
        burning(x, 1, 1);
        x.reset(0);
        burning(x, 0, 0);
        x.series(1, 0, 3);
        x.tell(1, 9);
        burning(x, 1, 1);
        x.rule(0, 0, 1, 2, 8, true);
        x.rule(0, 0, 1, 1, -1, true);
        // The new SERIES alone, both together, and the PLACES 0 and 3.
        burning(x, 4, 4);
    }

    private static void burningInAsSamplesFallBehind() {
        c.says("with all SERIES as they are");
        HarbourlightMonitor most = looking(1, 3, 12, 5, true);
        pass(most, 9, 0, 0, 0);
        // MOST over 12 is 9 with the TICKS up to 12; it BURNS with 13 and 14, and is gone with 15.
        burning(most, 1, 1, 1, 1, 1, 1, 1, 1, 1, 1);
        most.tick(1);
        burning(most, 1, 1, 1, 1, 1, 1, 1, 1, 1, 0);
        HarbourlightMonitor grown = looking(0, 1, 12, 5, true);
        grown.tick(1);
        grown.tell(0, 9);
        grown.tick(4);
        // It grew with the TICK to 2: over 12 it is seen up to 13, and it BURNS up to 15.
        burning(grown, 1, 1, 1, 1, 1, 1, 1, 1, 1, 1);
        grown.tick(1);
        burning(grown, 1, 1, 1, 1, 1, 1, 1, 1, 1, 0);
        HarbourlightMonitor least = looking(1, 4, 3, 5, true);
        pass(least, 9, 9, 0);
        least.tell(0, 6);
        burning(least, 1, 0, 1, 1);
    }

    private static void burningInOfPartsThatFade() {
        c.says("Returns how many ALERTS would BURN then.");
        HarbourlightMonitor x = looking(2, 8, 2, 400, true);
        x.tick(1);
        x.tell(0, 300);
        x.tell(0, 300);
        // PART 99 over 2 is 500 with the TICKS to 2 and 3, then 0.
        burning(x, 1, 1, 1, 1, 0, 0);
        x.tick(2);
        burning(x, 1, 1, 0);
        c.due("nothing is told by that", x.look(0, 8, 2), 500);
    }

    private static void burningInOfPartsThatGrow() {
        c.says("PART q (of HISTOGRAMS alone; 0 of others): with the GROWTH of each of the five COUNTS");
        int[] values = {7, 40, 80, 300, 900};
        int[] parts = {10, 50, 100, 500, 500};
        for (int i = 0; i < values.length; i++) {
            HarbourlightMonitor x = looking(2, 5, 1, parts[i] - 1, true);
            x.rule(0, 5, 1, 0, parts[i], true);
            x.rule(0, 5, 1, 0, parts[i], false);
            x.tick(1);
            x.tell(0, values[i]);
            // With the next TICK PART 50 is just as much, then 0: RULE 0 BURNS for 3 TICKS, RULE 1 never; RULE 2 BURNS
            // since 1, where PART 50 was 0, and on with 2.
            burning(x, 2, 2, 2, 1);
            x.tick(1);
            c.due("PART 50", x.look(0, 5, 1), parts[i]);
            burning(x, 2, 2, 1);
        }
        HarbourlightMonitor y = looking(2, 5, 2, 60, true);
        y.tick(1);
        y.tell(0, 7);
        y.tell(0, 7);
        y.tell(0, 7);
        y.tick(1);
        y.tell(0, 80);
        y.tell(0, 80);
        // Over 2: r is 3 of 5 with the TICK to 3, 10; with 4 it is 1 of 2, 75; with 5 there is none.
        burning(y, 0, 1, 1, 1, 0);
    }

    private static void burningInOfFewSamples() {
        c.says("LATEST w of a SERIES are its last w SAMPLES (or all, if there are fewer).");
        HarbourlightMonitor mean = looking(1, 2, 4, 5, true);
        pass(mean, 0);
        mean.tell(0, 9);
        // MEANS 4, 6, 6 and then 9.
        burning(mean, 0, 1, 1, 1);
        HarbourlightMonitor least = looking(1, 4, 12, 5, true);
        least.tell(0, 9);
        burning(least, 1, 1, 1, 1, 1, 1, 1, 1, 1, 1);
        HarbourlightMonitor grown = looking(0, 1, 12, 5, true);
        grown.tell(0, 9);
        // The first SAMPLE has not grown.
        burning(grown, 0, 0, 0, 0, 0, 0, 0, 0, 0, 0);
    }

    private static void burningInOfNone() {
        c.says("Returns how many ALERTS would BURN then.");
        HarbourlightMonitor x = new HarbourlightMonitor();
        burning(x, 0, 0, 0, 0, 0, 0, 0, 0, 0, 0);
        x.rule(0, 0, 1, 0, -10000, true);
        x.rule(0, 0, 1, 1, -10000, true);
        x.rule(0, 0, 1, 2, -10000, true);
        burning(x, 0, 0, 0, 0, 0, 0, 0, 0, 0, 0);
        for (int s = 0; s < 12; s++) {
            x.series(1, 0, s % 6);
        }
        burning(x, 19, 19);
    }

    private static void burningInIgnoresHushes() {
        c.says("how many ALERTS would BURN");
        HarbourlightMonitor x = watched(0);
        x.rule(0, 0, 1, 2, 5, true);
        x.setRule(1, 5, 0, 3);
        x.hush(-1, -1, 60);
        x.tell(0, 6);
        burning(x, 2, 2);
        x.tick(1);
        c.due("LOUD", x.many(5), 0);
        burning(x, 2, 2);
    }

    private static void nothingIsChanged() {
        c.says("---- what would be (nothing is changed).");
        HarbourlightMonitor x = watched(3);
        HarbourlightMonitor y = watched(3);
        int[] values = {6, 6, 5, 6, 6, 6, 6, 5, 5, 6, 5, 5, 5, 5, 6};
        for (int value : values) {
            pass(x, value);
            pass(y, value);
            x.hush(0, 0, 1);
            y.hush(0, 0, 1);
            for (int ticks = 1; ticks <= 10; ticks++) {
                x.burningIn(ticks);
            }
            x.beyond(0, -10000);
            x.calm(0);
            x.loudWithout(0);
            x.digest();
            c.due("all but digest()", x.digest(), y.digest());
            x.unhush(0);
            y.unhush(0);
        }
        c.due("NOTICES", x.tick(10), y.tick(10));
        c.due("at last", x.digest(), y.digest());
    }

    private static void beyondJustTheLimit() {
        c.says("Returns for how many KEYS of it what it looks at now would be beyond that.");
        int[] values = {0, 7, -7, 1000, -1000};
        for (int value : values) {
            HarbourlightMonitor x = new HarbourlightMonitor();
            x.series(1, 0, 0);
            x.rule(0, 0, 1, 0, 0, true);
            x.rule(0, 0, 1, 0, 0, false);
            pass(x, value);
            c.due("ABOVE " + (value - 1), x.beyond(0, value - 1), 1);
            c.due("ABOVE just " + value, x.beyond(0, value), 0);
            c.due("ABOVE " + (value + 1), x.beyond(0, value + 1), 0);
            c.due("below " + (value - 1), x.beyond(1, value - 1), 0);
            c.due("below just " + value, x.beyond(1, value), 0);
            c.due("below " + (value + 1), x.beyond(1, value + 1), 1);
            c.due("nothing is set", x.setRule(0, 0, 0, 0) + x.setRule(1, 0, 0, 0), 0);
        }
    }

    private static void beyondOfEachKey() {
        c.says("for how many KEYS of it");
        HarbourlightMonitor x = new HarbourlightMonitor();
        for (int s = 0; s < 12; s++) {
            x.series(1, 0, s % 6);
            x.tell(s, s);
        }
        for (int way = 0; way <= 2; way++) {
            x.rule(0, 0, 1, way, 10000, true);
        }
        c.due("without SAMPLES all is 0", x.beyond(0, -1) * 100 + x.beyond(0, 0), 1200);
        x.tick(1);
        x.tell(0, 999);
        // 0 to 11; by PLACES 6, 8 .. 16; together 66. None of them has an ALERT.
        int[] limits = {-1, 0, 5, 6, 10, 11, 15, 16, 65, 66};
        int[][] due = {
            {12, 11, 6, 5, 1, 0, 0, 0, 0, 0}, {6, 6, 6, 5, 3, 3, 1, 0, 0, 0}, {1, 1, 1, 1, 1, 1, 1, 1, 1, 0},
        };
        for (int rule = 0; rule < 3; rule++) {
            for (int i = 0; i < limits.length; i++) {
                c.due("beyond(" + rule + ", " + limits[i] + ")", x.beyond(rule, limits[i]), due[rule][i]);
            }
        }
        c.due("ALERTS", x.many(3), 0);
    }

    /** 11 GAUGES of METRIC 0, RULE 0 of all together, ABOVE, and RULE 1, below. */
    private static HarbourlightMonitor eleven(int each, int first) {
        HarbourlightMonitor x = new HarbourlightMonitor();
        for (int s = 0; s < 11; s++) {
            x.series(1, 0, 0);
            x.tell(s, s == 0 ? first : each);
        }
        x.rule(0, 0, 1, 2, 0, true);
        x.rule(0, 0, 1, 2, 0, false);
        x.tick(1);
        return x;
    }

    private static void beyondOfLimitsAtTheMost() {
        c.says("Throws `IllegalArgumentException` if limit is not -10000 to 10000");
        c.due("10000 is not ABOVE 10000", eleven(1000, 0).beyond(0, 10000), 0);
        c.due("10001 is", eleven(1000, 1).beyond(0, 10000), 1);
        c.due("-10000 is not below -10000", eleven(-1000, 0).beyond(1, -10000), 0);
        c.due("-10001 is", eleven(-1000, -1).beyond(1, -10000), 1);
    }

    private static void calmIsTheLeastOrTheGreatest() {
        c.says("Returns the least number (with ABOVE; otherwise the greatest)");
        int[][] values = {
            {3, 9, 5}, {-3, -9, -5}, {0, 0, 0}, {-1, 0, 1}, {1000, -1000, 7}, {4, 4, 4}, {6, 5, 4}, {4, 5, 6}, {0, -1, 1},
        };
        int[] least = {9, -3, 0, 1, 1000, 4, 6, 6, 1};
        int[] greatest = {3, -9, 0, -1, -1000, 4, 4, 4, -1};
        for (int i = 0; i < values.length; i++) {
            HarbourlightMonitor x = new HarbourlightMonitor();
            for (int s = 0; s < 3; s++) {
                x.series(1, 0, 0);
                x.tell(s, values[i][s]);
            }
            x.rule(0, 0, 1, 0, 0, true);
            x.rule(0, 0, 1, 0, 0, false);
            x.tick(1);
            x.tell(0, 500);
            String name = java.util.Arrays.toString(values[i]);
            c.due("ABOVE, of " + name, x.calm(0), least[i]);
            c.due("below, of " + name, x.calm(1), greatest[i]);
            c.due("nothing is beyond it", x.beyond(0, least[i]) + x.beyond(1, greatest[i]), 0);
            c.due("1 less", x.beyond(0, least[i] - 1) > 0 ? 1 : 0, 1);
            c.due("1 more", x.beyond(1, greatest[i] + 1) > 0 ? 1 : 0, 1);
        }
    }

    private static void calmOfEachKey() {
        c.says("nothing that it looks at now would be beyond it");
        int[] last = {11, 5, 0};
        for (int way = 0; way <= 2; way++) {
            for (int key = 0; key <= last[way]; key++) {
                HarbourlightMonitor x = new HarbourlightMonitor();
                for (int s = 0; s <= last[way]; s++) {
                    x.series(1, 0, s % 6);
                }
                x.rule(0, 0, 1, way, 0, true);
                x.rule(0, 0, 1, way, 0, false);
                pass(x, 0);
                x.tell(key, 9);
                x.tick(1);
                c.due("ABOVE, KEY " + key + " of WAY " + way, x.calm(0), 9);
                x.tell(key, -9);
                x.tick(1);
                c.due("below, KEY " + key + " of WAY " + way, x.calm(1), -9);
                c.due("ABOVE, all the others", x.calm(0), way == 2 ? -9 : 0);
            }
        }
    }

    private static void calmOutsideOfLimits() {
        c.says("also outside of the range of a LIMIT");
        c.due("ABOVE", eleven(1000, 1000).calm(0), 11000);
        c.due("below", eleven(-1000, -1000).calm(1), -11000);
        HarbourlightMonitor x = looking(0, 0, 1, 0, true);
        for (int i = 0; i < 30; i++) {
            x.tell(0, 1000);
        }
        x.tick(1);
        c.due("a COUNTER", x.calm(0), 30000);
    }

    private static void calmWithoutKeys() {
        c.says("with which, as its LIMIT, nothing that it looks at now would be beyond it; 0 without KEYS.");
        HarbourlightMonitor x = new HarbourlightMonitor();
        x.series(1, 1, 0);
        pass(x, 700);
        for (int rule = 0; rule < 6; rule++) {
            x.rule(0, 0, 1, rule % 3, rule % 2 == 0 ? 77 : -77, rule < 3);
            c.due("calm(" + rule + ")", x.calm(rule), 0);
        }
        x.series(1, 0, 0);
        x.tell(1, -4);
        c.due("with a KEY without SAMPLES", x.calm(0), 0);
        x.tick(1);
        for (int rule = 0; rule < 6; rule++) {
            c.due("with a KEY, calm(" + rule + ")", x.calm(rule), -4);
        }
    }

    private static void loudWithoutOneThatIsOver() {
        c.says("Returns how many ALERTS would be LOUD without it.");
        HarbourlightMonitor x = watched(0);
        pass(x, 6);
        x.hush(0, 0, 2);
        c.due("LOUD", x.many(5), 0);
        c.due("without it", x.loudWithout(0), 1);
        x.tick(1);
        c.due("without it, as it is not over", x.loudWithout(0), 1);
        c.due("LOUD", x.many(5), 0);
        x.tick(1);
        c.due("LOUD, as it is over", x.many(5), 1);
        c.due("without it, as it is over", x.loudWithout(0), 1);
        c.due("it stays", x.many(2), 1);
        x.setRule(0, 5, 20, 0);
        pass(x, 5, 5, 5, 6);
        c.due("without it, of one that is PENDING", x.loudWithout(0), 0);
    }

    private static void loudWithoutOneOfTwo() {
        c.says("Returns how many ALERTS would be LOUD without it.");
        HarbourlightMonitor x = watched(0);
        x.series(1, 0, 1);
        x.tell(1, 6);
        pass(x, 6);
        x.hush(-1, -1, 5);
        x.hush(0, 0, 1);
        c.due("without the one for all", x.loudWithout(0), 1);
        c.due("without the other one", x.loudWithout(1), 0);
        x.hush(-1, -1, 5);
        c.due("the same twice", x.loudWithout(0) + x.loudWithout(2), 0);
        x.unhush(0);
        c.due("those behind move up", x.loudWithout(1), 1);
        x.tick(1);
        c.due("as the other one is over", x.loudWithout(1), 2);
    }

    private static void loudWithoutOneThatHushesTheLouder() {
        c.says("if another one, whose RULE has a greater RANK");
        HarbourlightMonitor x = watched(0);
        x.series(1, 0, 1);
        x.tell(1, 6);
        x.rule(0, 0, 1, 2, 5, true);
        x.setRule(1, 5, 0, 2);
        pass(x, 6);
        x.hush(1, -1, 9);
        c.due("LOUD", x.many(5), 2);
        c.due("fewer without it: it keeps both quiet", x.loudWithout(0), 1);
        x.hush(0, -1, 9);
        c.due("LOUD", x.many(5), 0);
        c.due("without the first one", x.loudWithout(0), 1);
        c.due("without the second one", x.loudWithout(1), 2);
    }

    private static void loudWithoutOneForTheLastKey() {
        c.says("Returns how many ALERTS would be LOUD without it.");
        HarbourlightMonitor x = new HarbourlightMonitor();
        for (int s = 0; s < 12; s++) {
            x.series(1, 0, s == 11 ? 5 : 0);
        }
        for (int rule = 0; rule < 6; rule++) {
            x.rule(0, 0, 1, 0, 5, true);
        }
        x.tell(11, 6);
        x.tick(1);
        x.hush(5, 5, 9);
        x.hush(0, 5, 9);
        c.due("LOUD", x.many(5), 4);
        c.due("without the one of RULE 5", x.loudWithout(0), 5);
        c.due("without the one of RULE 0", x.loudWithout(1), 5);
    }

    private static final BigInteger ALL = BigInteger.ONE.shiftLeft(64);

    /** The checksum by the words of the document, in numbers that do not wrap around by themselves. */
    private static final class Sum {
        BigInteger d = BigInteger.valueOf(58073);
        int numbers = 0;

        Sum with(long... all) {
            for (long v : all) {
                d = d.multiply(BigInteger.valueOf(31)).add(BigInteger.valueOf(v)).mod(ALL);
                numbers++;
            }
            return this;
        }

        long wrapped() {
            return d.longValue();
        }
    }

    private static void checksumOfANewObject() {
        c.says("A number d starts with 58073; for each of the following numbers v, d becomes d * 31 + v, which wraps around "
                + "as a 64-bit integer");
        HarbourlightMonitor x = new HarbourlightMonitor();
        c.due("all 0", x.digest(), new Sum().with(0, 0, 0, 0, 0, 0, 0, 0).wrapped());
        c.due("again", x.digest(), 58073L * 31 * 31 * 31 * 31 * 31 * 31 * 31 * 31);
        x.tick(10);
        c.due("the CLOCK", x.digest(), new Sum().with(10, 0, 0, 0, 0, 0, 0, 0).wrapped());
        x.hush(-1, -1, 60);
        c.due("a HUSH", x.digest(), new Sum().with(10, 0, 0, 1, 0, 0, 0, 0, -1, -1, 70, 0, 0).wrapped());
    }

    private static void checksumWrapsAround() {
        c.says("which wraps around as a 64-bit integer");
        HarbourlightMonitor x = new HarbourlightMonitor();
        x.series(0, 0, 0);
        x.tell(0, 7);
        Sum one = new Sum().with(0, 1, 0, 0, 0, 0, 0, 0).with(7, 0, 0, 0, 0, 0, 0).with(0, 0).with(0, 0, 0, 0, 0, 0, 0, 0, 0);
        c.due("one SERIES", x.digest(), one.wrapped());
        HarbourlightMonitor y = new HarbourlightMonitor();
        for (int s = 0; s < 12; s++) {
            y.series(0, 0, 0);
        }
        Sum twelve = new Sum().with(0, 12, 0, 0, 0, 0, 0, 0);
        for (int i = 0; i < 12 * 18; i++) {
            twelve.with(0);
        }
        c.due("12 SERIES", y.digest(), twelve.wrapped());
        c.due("how many numbers", twelve.numbers, 224);
    }

    private static void checksumOfNumbersBelowZero() {
        c.says("for each SERIES now() of 0 to 6, sample() of 0 and 1, look() of 0 to 8 over 5; for each RULE calm(), beyond() "
                + "of its LIMIT; for each ALERT alertAt() of 0 to 2, and alert() of it of 0 to 2");
        HarbourlightMonitor x = new HarbourlightMonitor();
        x.series(1, 0, 4);
        x.rule(0, 0, 1, 2, -500, false);
        x.rule(0, 0, 1, 0, -10000, true);
        x.setRule(1, -1000, 3, 1);
        pass(x, -10, -30, -20, -40, -999, -1000, -990);
        Sum due = new Sum().with(7, 1, 2, 0, 2, 2, 2, 1);
        due.with(-990, 7, 0, 0, 0, 0, 0).with(-990, -1000);
        // Over 5: LAST, GROWTH (10, -40, -999, -1000, 10), MEAN of 3049 / 5, MOST, LEAST, and PARTS.
        due.with(-990, -2019, -609, -20, -1000, 0, 0, 0, 0);
        due.with(-990, 1).with(-990, 1);
        due.with(0, 0, -1, 2, 5, 0).with(1, 0, 4, 2, 4, 0);
        due.with(5, 0, 2, 1);
        c.due("ALERTS that BURN", x.many(4), 2);
        c.due("the one of RULE 1, since", x.alert(1, 0, 1), 4);
        c.due("digest()", x.digest(), due.wrapped());
    }

    private static void checksumOfJustTheLimit() {
        c.says("for each RULE calm(), beyond() of its LIMIT");
        for (int value = 4; value <= 6; value++) {
            HarbourlightMonitor x = watched(0);
            x.rule(0, 0, 1, 0, 5, false);
            // No TICK goes by with the LIMITS that are set then: there are no ALERTS.
            pass(x, 5);
            x.setRule(0, value, 0, 0);
            x.setRule(1, value, 0, 0);
            Sum due = new Sum().with(1, 1, 2, 0, 0, 0, 0, 0).with(5, 1, 0, 0, 0, 0, 0).with(5, 0).with(5, 0, 5, 5, 5, 0, 0, 0, 0);
            due.with(5, value < 5 ? 1 : 0).with(5, value > 5 ? 1 : 0);
            c.due("LIMITS of " + value, x.digest(), due.wrapped());
        }
    }

    private static void checksumOfPendingOnes() {
        c.says("for each HUSH ofHush() of 0 to 3, and loudWithout()");
        HarbourlightMonitor x = watched(20);
        x.rule(0, 0, 1, 1, 5, true);
        pass(x, 6);
        x.hush(1, 0, 9);
        x.hush(-1, -1, 1);
        Sum due = new Sum().with(1, 1, 2, 2, 2, 1, 0, 0).with(6, 1, 0, 0, 0, 0, 0).with(6, 0).with(6, 0, 6, 6, 6, 0, 0, 0, 0);
        due.with(6, 1).with(6, 1);
        due.with(0, 0, 0, 1, 1, 1).with(1, 0, 0, 2, 1, 2);
        due.with(1, 0, 10, 1, 0).with(-1, -1, 2, 2, 0);
        c.due("digest()", x.digest(), due.wrapped());
        x.unhush(0);
        Sum then = new Sum().with(1, 1, 2, 1, 2, 1, 0, 0).with(6, 1, 0, 0, 0, 0, 0).with(6, 0).with(6, 0, 6, 6, 6, 0, 0, 0, 0);
        then.with(6, 1).with(6, 1);
        then.with(0, 0, 0, 1, 1, 1).with(1, 0, 0, 2, 1, 2);
        then.with(-1, -1, 2, 2, 1);
        c.due("digest(), of one HUSH", x.digest(), then.wrapped());
    }

    private static void checksumOfNoticesKept() {
        c.says("for each NOTICE that is kept, the latest one first, notice() of 0 to 3");
        HarbourlightMonitor x = watched(0);
        x.group(0, 5);
        x.tell(0, 6);
        x.tick(2);
        for (int n = 1; n <= 32; n++) {
            int clock = 2 + 5 * (n - 1);
            Sum due = new Sum().with(clock, 1, 1, 0, 1, 1, 1, n);
            due.with(6, Math.min(clock, 13), 0, 0, 0, 0, 0).with(6, 6).with(6, 0, 6, 6, 6, 0, 0, 0, 0);
            due.with(6, 1).with(0, 0, 0, 2, 1, 0);
            for (int back = 0; back < Math.min(n, 30); back++) {
                due.with(clock - 5 * back, 0, 1, 0);
            }
            c.due("of " + n + " NOTICES", x.digest(), due.wrapped());
            x.tick(5);
        }
    }
}

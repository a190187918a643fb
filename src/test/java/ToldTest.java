/** Promises 1 to 12: what is told. */
public final class ToldTest {
    private static final int[] FAR = {Integer.MIN_VALUE, Integer.MAX_VALUE};
    private static final Checks c = new Checks();

    public static void main(String[] args) {
        promise1NewObject();
        promise2Series();
        promise2SeriesRefuses();
        promise3Tell();
        promise3TellRefuses();
        promise4Reset();
        promise5Rule();
        promise5RuleRefuses();
        promise6SetRule();
        promise6SetRuleRefuses();
        promise7DropRule();
        promise8Hush();
        promise8HushRefuses();
        promise9Unhush();
        promise10Group();
        promise11Tick();
        promise12Clock();
        c.end();
    }

    private static void promise1NewObject() {
        HarbourlightMonitor x = new HarbourlightMonitor();
        c.due("1 clock", x.clock(), 0);
        for (int what = 0; what <= 6; what++) {
            c.due("1 many(" + what + ")", x.many(what), 0);
        }
        c.badIndex("1 now(0, 0)", x, () -> x.now(0, 0));
        c.badIndex("1 calm(0)", x, () -> x.calm(0));
        c.badIndex("1 ofHush(0, 0)", x, () -> x.ofHush(0, 0));
        c.badIndex("1 notice(0, 0)", x, () -> x.notice(0, 0));
        c.due("1 a second object is another one", x.series(0, 0, 0), 0);
        c.due("1 a second object is another one", new HarbourlightMonitor().many(0), 0);
    }

    private static void promise2Series() {
        HarbourlightMonitor x = new HarbourlightMonitor();
        for (int i = 0; i < 12; i++) {
            c.due("2 series " + i, x.series(i % 3, i % 6, 5 - i % 6), i);
            c.due("2 many(0)", x.many(0), i + 1);
            c.due("2 VALUE at first", x.now(i, 0), 0);
            c.due("2 SAMPLES at first", x.now(i, 1), 0);
        }
        x.tell(9, 7);
        x.tell(10, 7);
        x.tell(11, 7);
        c.due("2 kind COUNTER", x.tell(9, 5), 12);
        c.due("2 kind GAUGE", x.tell(10, 5), 5);
        c.due("2 kind HISTOGRAM", x.tell(11, 5), 2);
        c.badState("2 a 13th", x, () -> x.series(0, 0, 0));
        c.badArgument("2 a 13th of no kind", x, () -> x.series(3, 0, 0));
        c.badArgument("2 a 13th of no metric", x, () -> x.series(0, 6, 0));
        c.badArgument("2 a 13th of no place", x, () -> x.series(0, 0, -1));
    }

    private static void promise2SeriesRefuses() {
        HarbourlightMonitor x = new HarbourlightMonitor();
        c.badArgument("2 kind -1", x, () -> x.series(-1, 0, 0));
        c.badArgument("2 kind 3", x, () -> x.series(3, 0, 0));
        c.badArgument("2 metric -1", x, () -> x.series(0, -1, 0));
        c.badArgument("2 metric 6", x, () -> x.series(0, 6, 0));
        c.badArgument("2 place -1", x, () -> x.series(0, 0, -1));
        c.badArgument("2 place 6", x, () -> x.series(0, 0, 6));
        for (int far : FAR) {
            c.badArgument("2 kind far", x, () -> x.series(far, 0, 0));
            c.badArgument("2 metric far", x, () -> x.series(0, far, 0));
            c.badArgument("2 place far", x, () -> x.series(0, 0, far));
        }
        c.due("2 edges", x.series(0, 0, 0), 0);
        c.due("2 edges", x.series(2, 5, 5), 1);
    }

    private static void promise3Tell() {
        HarbourlightMonitor x = new HarbourlightMonitor();
        x.series(0, 0, 0);
        x.series(1, 0, 0);
        x.series(2, 0, 0);
        c.due("3 COUNTER", x.tell(0, 0), 0);
        c.due("3 COUNTER", x.tell(0, 1000), 1000);
        c.due("3 COUNTER", x.tell(0, 1000), 2000);
        c.due("3 GAUGE", x.tell(1, 1000), 1000);
        c.due("3 GAUGE", x.tell(1, -1000), -1000);
        c.due("3 GAUGE", x.tell(1, 3), 3);
        int[] values = {0, 10, 11, 50, 51, 100, 101, 500, 501, 1000};
        int[] columns = {2, 2, 3, 3, 4, 4, 5, 5, 6, 6};
        for (int i = 0; i < values.length; i++) {
            int before = x.now(2, columns[i]);
            c.due("3 HISTOGRAM " + values[i], x.tell(2, values[i]), i + 1);
            c.due("3 COUNT of " + values[i], x.now(2, columns[i]), before + 1);
        }
        c.due("3 others stay", x.now(0, 0), 2000);
        c.due("3 no SAMPLE", x.now(2, 1), 0);
    }

    private static void promise3TellRefuses() {
        HarbourlightMonitor x = new HarbourlightMonitor();
        x.series(0, 0, 0);
        x.series(1, 0, 0);
        x.series(2, 0, 0);
        c.badIndex("3 SERIES 3", x, () -> x.tell(3, 0));
        c.badIndex("3 SERIES -1", x, () -> x.tell(-1, 0));
        c.badIndex("3 SERIES first", x, () -> x.tell(3, 5000));
        c.badArgument("3 COUNTER -1", x, () -> x.tell(0, -1));
        c.badArgument("3 COUNTER 1001", x, () -> x.tell(0, 1001));
        c.badArgument("3 GAUGE -1001", x, () -> x.tell(1, -1001));
        c.badArgument("3 GAUGE 1001", x, () -> x.tell(1, 1001));
        c.badArgument("3 HISTOGRAM -1", x, () -> x.tell(2, -1));
        c.badArgument("3 HISTOGRAM 1001", x, () -> x.tell(2, 1001));
        for (int far : FAR) {
            c.badIndex("3 SERIES far", x, () -> x.tell(far, 0));
            c.badArgument("3 number far", x, () -> x.tell(1, far));
        }
    }

    private static void promise4Reset() {
        HarbourlightMonitor x = new HarbourlightMonitor();
        x.series(0, 0, 0);
        x.series(1, 0, 0);
        x.series(2, 0, 0);
        x.tell(0, 40);
        x.tell(1, -7);
        x.tell(2, 5);
        x.tell(2, 600);
        x.tick(1);
        c.due("4 COUNTER", x.reset(0), 40);
        c.due("4 GAUGE", x.reset(1), -7);
        c.due("4 HISTOGRAM", x.reset(2), 2);
        for (int s = 0; s < 3; s++) {
            c.due("4 VALUE then", x.now(s, 0), 0);
            c.due("4 SAMPLES stay", x.now(s, 1), 1);
            c.due("4 again", x.reset(s), 0);
        }
        for (int what = 2; what <= 6; what++) {
            c.due("4 COUNT then", x.now(2, what), 0);
        }
        c.due("4 SAMPLE stays", x.sample(0, 0), 40);
        c.due("4 SAMPLE stays", x.sample(1, 0), -7);
        c.due("4 SAMPLE stays", x.sample(2, 0), 2);
        c.due("4 anew", x.tell(0, 3), 3);
        c.due("4 anew", x.tell(2, 3), 1);
        c.badIndex("4 SERIES 3", x, () -> x.reset(3));
        c.badIndex("4 SERIES -1", x, () -> x.reset(-1));
    }

    private static void promise5Rule() {
        HarbourlightMonitor x = new HarbourlightMonitor();
        x.series(1, 4, 0);
        x.tell(0, 10);
        c.due("5 first", x.rule(4, 0, 1, 0, 9, true), 0);
        c.due("5 just the LIMIT, ABOVE", x.rule(4, 0, 1, 0, 10, true), 1);
        c.due("5 just the LIMIT, below", x.rule(4, 0, 1, 0, 10, false), 2);
        c.due("5 below", x.rule(4, 0, 1, 0, 11, false), 3);
        c.due("5 of another METRIC", x.rule(3, 0, 1, 0, -10000, true), 4);
        c.due("5 edges", x.rule(4, 8, 12, 2, 10000, false), 5);
        c.due("5 many(1)", x.many(1), 6);
        c.due("5 no ALERTS without TICKS", x.many(3), 0);
        x.tick(1);
        int[] states = {2, 0, 0, 2, 0, 2};
        for (int rule = 0; rule < 6; rule++) {
            c.due("5 WAIT is 0, RULE " + rule, x.alert(rule, 0, 0), states[rule]);
            c.due("5 LIMIT kept", x.setRule(rule, 0, 0, 0), new int[] {9, 10, 10, 11, -10000, 10000}[rule]);
        }
        x.setRule(3, 11, 0, 1);
        c.due("5 RANK is 0", x.alert(0, 0, 2), 3);
        c.badState("5 a 7th", x, () -> x.rule(0, 0, 1, 0, 0, true));
        c.badArgument("5 a 7th that is wrong", x, () -> x.rule(0, 0, 0, 0, 0, true));
        c.badArgument("5 a 7th with a wrong LIMIT", x, () -> x.rule(0, 0, 1, 0, 10001, true));
    }

    private static void promise5RuleRefuses() {
        HarbourlightMonitor x = new HarbourlightMonitor();
        int[][] wrong = {
            {-1, 0, 1, 0, 0}, {6, 0, 1, 0, 0}, {0, -1, 1, 0, 0}, {0, 9, 1, 0, 0}, {0, 0, 0, 0, 0}, {0, 0, 13, 0, 0},
            {0, 0, 1, -1, 0}, {0, 0, 1, 3, 0}, {0, 0, 1, 0, -10001}, {0, 0, 1, 0, 10001},
        };
        for (int[] w : wrong) {
            c.badArgument("5 " + java.util.Arrays.toString(w), x, () -> x.rule(w[0], w[1], w[2], w[3], w[4], true));
        }
        for (int far : FAR) {
            c.badArgument("5 metric far", x, () -> x.rule(far, 0, 1, 0, 0, true));
            c.badArgument("5 look far", x, () -> x.rule(0, far, 1, 0, 0, true));
            c.badArgument("5 w far", x, () -> x.rule(0, 0, far, 0, 0, true));
            c.badArgument("5 way far", x, () -> x.rule(0, 0, 1, far, 0, true));
            c.badArgument("5 limit far", x, () -> x.rule(0, 0, 1, 0, far, true));
        }
        c.due("5 edges", x.rule(0, 0, 1, 0, -10000, true), 0);
        c.due("5 edges", x.rule(5, 8, 12, 2, 10000, true), 1);
    }

    private static void promise6SetRule() {
        HarbourlightMonitor x = new HarbourlightMonitor();
        x.series(1, 0, 0);
        x.rule(0, 0, 1, 0, 5, true);
        c.due("6 LIMIT before", x.setRule(0, 8, 2, 0), 5);
        c.due("6 LIMIT before", x.setRule(0, 6, 2, 3), 8);
        x.tell(0, 7);
        x.tick(2);
        c.due("6 WAIT", x.alert(0, 0, 0), 1);
        c.due("6 LIMIT before", x.setRule(0, 10000, 20, 3), 6);
        c.due("6 ALERTS stay", x.alert(0, 0, 0), 1);
        c.due("6 LIMIT before", x.setRule(0, -10000, 0, 0), 10000);
        c.due("6 ALERTS stay", x.alert(0, 0, 0), 1);
        x.tick(1);
        c.due("6 WAIT from now on", x.alert(0, 0, 0), 2);
        c.due("6 since", x.alert(0, 0, 1), 3);
        x.setRule(0, 7, 20, 0);
        x.tick(2);
        c.due("6 an ALERT that BURNS stays", x.alert(0, 0, 0), 2);
        x.tick(1);
        c.due("6 till it goes", x.alert(0, 0, 0), 0);
        x.setRule(0, 6, 20, 0);
        x.tick(10);
        x.tick(10);
        c.due("6 WAIT 20, the 20th TICK", x.alert(0, 0, 0), 1);
        x.tick(1);
        c.due("6 WAIT 20, the 21st TICK", x.alert(0, 0, 0), 2);
    }

    private static void promise6SetRuleRefuses() {
        HarbourlightMonitor x = new HarbourlightMonitor();
        c.badIndex("6 no RULE", x, () -> x.setRule(0, 0, 0, 0));
        x.rule(0, 0, 1, 0, 5, true);
        c.badIndex("6 RULE 1", x, () -> x.setRule(1, 0, 0, 0));
        c.badIndex("6 RULE -1", x, () -> x.setRule(-1, 0, 0, 0));
        c.badIndex("6 RULE first", x, () -> x.setRule(1, 10001, 21, 4));
        c.badArgument("6 limit", x, () -> x.setRule(0, 10001, 0, 0));
        c.badArgument("6 limit", x, () -> x.setRule(0, -10001, 0, 0));
        c.badArgument("6 wait", x, () -> x.setRule(0, 1, -1, 0));
        c.badArgument("6 wait", x, () -> x.setRule(0, 1, 21, 0));
        c.badArgument("6 rank", x, () -> x.setRule(0, 1, 1, -1));
        c.badArgument("6 rank", x, () -> x.setRule(0, 1, 1, 4));
        x.series(1, 0, 0);
        x.tell(0, 6);
        c.badArgument("6 rank", x, () -> x.setRule(0, 1, 20, 4));
        x.tick(1);
        c.due("6 the refused ones set no WAIT", x.alert(0, 0, 0), 2);
        c.due("6 the refused ones set no LIMIT", x.setRule(0, 1, 20, 3), 5);
    }

    private static void promise7DropRule() {
        HarbourlightMonitor x = new HarbourlightMonitor();
        c.badState("7 none", x, () -> x.dropRule());
        x.series(1, 0, 0);
        x.tell(0, 10);
        x.rule(0, 0, 1, 0, 5, true);
        x.rule(0, 0, 1, 0, 5, true);
        x.hush(1, 3, 9);
        x.hush(0, 4, 9);
        x.hush(1, -1, 9);
        x.hush(1, 2, 9);
        x.hush(-1, 1, 9);
        x.tick(1);
        c.due("7 ALERTS", x.many(3), 2);
        c.due("7 left", x.dropRule(), 1);
        c.due("7 RULES", x.many(1), 1);
        c.due("7 its ALERTS are gone", x.many(3), 1);
        c.due("7 its HUSHES are gone", x.many(2), 2);
        c.due("7 those behind move up", x.ofHush(0, 0), 0);
        c.due("7 those behind move up", x.ofHush(0, 1), 4);
        c.due("7 those behind move up", x.ofHush(1, 0), -1);
        c.due("7 those behind move up", x.ofHush(1, 1), 1);
        c.badIndex("7 it is gone", x, () -> x.calm(1));
        c.due("7 added anew", x.rule(0, 0, 1, 0, 5, true), 1);
        c.due("7 without an ALERT", x.alert(1, 0, 0), 0);
        c.due("7 left", x.dropRule(), 1);
        c.due("7 left", x.dropRule(), 0);
        c.due("7 no ALERTS", x.many(3), 0);
        c.badState("7 none", x, () -> x.dropRule());
        x.rule(0, 0, 1, 0, 5, true);
        x.unhush(0);
        x.hush(0, -1, 9);
        c.due("7 left", x.dropRule(), 0);
        c.due("7 the last HUSH, too", x.many(2), 0);
    }

    private static void promise8Hush() {
        HarbourlightMonitor x = new HarbourlightMonitor();
        x.series(1, 0, 2);
        x.tell(0, 10);
        x.rule(0, 0, 1, 0, 5, true);
        x.rule(0, 0, 1, 2, 5, true);
        x.tick(3);
        c.due("8 number", x.hush(0, 2, 2), 0);
        c.due("8 till", x.ofHush(0, 2), 5);
        c.due("8 HUSHED", x.alert(0, 0, 2), 2);
        c.due("8 not of another RULE", x.alert(1, 0, 2), 0);
        x.tick(1);
        c.due("8 below till", x.alert(0, 0, 2), 2);
        x.tick(1);
        c.due("8 no more", x.alert(0, 0, 2), 0);
        c.due("8 but it is there", x.many(2), 1);
        c.due("8 a PLACE is not NONE", x.hush(-1, 3, 1), 1);
        c.due("8 not of another PLACE", x.alert(0, 0, 2), 0);
        c.due("8 nor of NONE", x.alert(1, 0, 2), 0);
        c.due("8 each PLACE", x.hush(1, -1, 60), 2);
        c.due("8 also NONE", x.alert(1, 0, 2), 2);
        c.due("8 of that RULE", x.alert(0, 0, 2), 0);
        c.due("8 each RULE", x.hush(-1, 2, 1), 3);
        c.due("8 of that PLACE", x.alert(0, 0, 2), 2);
        x.unhush(2);
        c.due("8 but not NONE", x.alert(1, 0, 2), 0);
        c.due("8 all", x.hush(-1, -1, 1), 3);
        c.due("8 all", x.alert(1, 0, 2), 2);
        x.tick(1);
        c.due("8 the number counts those that are over", x.hush(-1, -1, 1), 4);
        c.badState("8 a 6th", x, () -> x.hush(-1, -1, 1));
        c.badIndex("8 a 6th for no RULE", x, () -> x.hush(2, 6, 0));
        c.badArgument("8 a 6th for no PLACE", x, () -> x.hush(-1, 6, 1));
    }

    private static void promise8HushRefuses() {
        HarbourlightMonitor x = new HarbourlightMonitor();
        x.rule(0, 0, 1, 0, 5, true);
        c.badIndex("8 RULE 1", x, () -> x.hush(1, 0, 1));
        c.badIndex("8 RULE -2", x, () -> x.hush(-2, 0, 1));
        c.badIndex("8 RULE first", x, () -> x.hush(1, 6, 0));
        c.badArgument("8 place 6", x, () -> x.hush(0, 6, 1));
        c.badArgument("8 place -2", x, () -> x.hush(0, -2, 1));
        c.badArgument("8 ticks 0", x, () -> x.hush(0, 0, 0));
        c.badArgument("8 ticks 61", x, () -> x.hush(0, 0, 61));
        for (int far : FAR) {
            c.badIndex("8 rule far", x, () -> x.hush(far, 0, 1));
            c.badArgument("8 place far", x, () -> x.hush(0, far, 1));
            c.badArgument("8 ticks far", x, () -> x.hush(0, 0, far));
        }
        c.due("8 edges", x.hush(0, 5, 60), 0);
        c.due("8 edges", x.hush(-1, -1, 1), 1);
    }

    private static void promise9Unhush() {
        HarbourlightMonitor x = new HarbourlightMonitor();
        c.badIndex("9 none", x, () -> x.unhush(0));
        for (int h = 0; h < 5; h++) {
            x.hush(-1, h, 10 + h);
        }
        c.badIndex("9 HUSH 5", x, () -> x.unhush(5));
        c.badIndex("9 HUSH -1", x, () -> x.unhush(-1));
        c.due("9 left", x.unhush(1), 4);
        c.due("9 those ahead stay", x.ofHush(0, 1), 0);
        c.due("9 those behind move up", x.ofHush(1, 1), 2);
        c.due("9 those behind move up", x.ofHush(3, 1), 4);
        c.due("9 those behind move up", x.ofHush(3, 2), 14);
        c.badIndex("9 HUSH 4", x, () -> x.unhush(4));
        c.due("9 left", x.unhush(3), 3);
        c.due("9 left", x.unhush(0), 2);
        c.due("9 left", x.unhush(0), 1);
        c.due("9 left", x.unhush(0), 0);
        c.badIndex("9 none", x, () -> x.unhush(0));
    }

    private static void promise10Group() {
        HarbourlightMonitor x = new HarbourlightMonitor();
        c.due("10 at first", x.group(2, 5), 0);
        c.due("10 before", x.group(1, 50), 2);
        c.due("10 the same", x.group(1, 50), 1);
        c.badArgument("10 grouping -1", x, () -> x.group(-1, 10));
        c.badArgument("10 grouping 3", x, () -> x.group(3, 10));
        c.badArgument("10 repeat 4", x, () -> x.group(0, 4));
        c.badArgument("10 repeat 51", x, () -> x.group(0, 51));
        for (int far : FAR) {
            c.badArgument("10 grouping far", x, () -> x.group(far, 10));
            c.badArgument("10 repeat far", x, () -> x.group(0, far));
        }
        c.due("10 the refused ones set nothing", x.group(0, 10), 1);
        c.due("10 before", x.group(0, 10), 0);
        x.series(1, 0, 0);
        x.rule(0, 0, 1, 0, 5, true);
        x.tell(0, 6);
        x.tick(2);
        c.badArgument("10 grouping 3", x, () -> x.group(3, 5));
        c.due("10 the refused ones set no REPEAT", x.tick(9), 0);
        c.due("10 the refused ones set no REPEAT", x.tick(1), 1);
    }

    private static void promise11Tick() {
        HarbourlightMonitor x = new HarbourlightMonitor();
        x.series(1, 0, 0);
        x.rule(0, 0, 1, 0, 5, true);
        x.tell(0, 10);
        x.group(0, 5);
        c.badArgument("11 ticks 0", x, () -> x.tick(0));
        c.badArgument("11 ticks 11", x, () -> x.tick(11));
        c.badArgument("11 ticks -1", x, () -> x.tick(-1));
        for (int far : FAR) {
            c.badArgument("11 ticks far", x, () -> x.tick(far));
        }
        c.due("11 NOTICES", x.tick(1), 0);
        c.due("11 NOTICES", x.tick(1), 1);
        c.due("11 NOTICES at 7 and 12", x.tick(10), 2);
        c.due("11 CLOCK", x.clock(), 12);
        c.due("11 SAMPLES", x.now(0, 1), 12);
        c.due("11 a SERIES that comes later", x.series(0, 0, 0), 1);
        c.due("11 has none", x.now(1, 1), 0);
        x.tick(2);
        c.due("11 has its own", x.now(1, 1), 2);
        c.due("11 the latest 13 are kept", x.now(0, 1), 13);
    }

    private static void promise12Clock() {
        HarbourlightMonitor x = new HarbourlightMonitor();
        c.due("12 at first", x.clock(), 0);
        x.tick(10);
        c.due("12", x.clock(), 10);
        x.series(0, 0, 0);
        x.burningIn(10);
        c.due("12 only TICKS count", x.clock(), 10);
        x.tick(1);
        c.due("12", x.clock(), 11);
    }
}

/** Terms 2 and promises 5 to 9 and 18 to 21: a test for each sentence that names an edge of RULES, ALERTS and HUSHES. */
public final class AlertEdgesTest {
    private static final int NONE = -1;
    private static final int GONE = 0;
    private static final int PENDING = 1;
    private static final int BURNS = 2;

    private static final int LOUD = 0;
    private static final int NOT_BURNING = 1;
    private static final int HUSHED = 2;
    private static final int QUIET = 3;

    private static final int[] FAR = {Integer.MIN_VALUE, -1000, -2, 12, 13, 31, 32, 33, 1000, Integer.MAX_VALUE};

    private static final Checks c = new Checks();

    public static void main(String[] args) {
        sixRules();
        aNewRule();
        keysOfSeries();
        keysOfPlaces();
        keyOfAllTogether();
        lastKeys();
        eachKeyIsSeen();
        justTheLimit();
        limitsAtTheMost();
        waitZero();
        waitJustOver();
        waitMadeLess();
        waitMadeMore();
        overButNotBeyond();
        pendingGoes();
        thirdTickInARow();
        countedAnew();
        comesAgain();
        setRuleLetsAlertsStay();
        placesOfAlerts();
        fiveHushes();
        hushOfEach();
        hushTillAClock();
        hushedByTwo();
        unhushMovesUp();
        dropRuleTakesHushes();
        dropRuleTakesAlerts();
        quietByRank();
        quietByPlace();
        quietByEachKey();
        quietByOneThatBurns();
        quietByOneNotHushed();
        quietByOneHushedElsewhere();
        quietByOneThatIsQuiet();
        standsOutsideOfKeys();
        alertOutsideOfKeys();
        sinceWhen();
        heardOrNot();
        alertsByRulesThenKeys();
        hushesHowMany();
        howManyOfEach();
        noneIsBelowZero();
        c.end();
    }

    /** GAUGES of METRIC 0 at these places. */
    private static HarbourlightMonitor gauges(int... places) {
        HarbourlightMonitor x = new HarbourlightMonitor();
        for (int place : places) {
            x.series(1, 0, place);
        }
        return x;
    }

    /** One GAUGE, and RULE 0 of it, ABOVE 5. */
    private static HarbourlightMonitor watched(int wait) {
        HarbourlightMonitor x = gauges(0);
        x.rule(0, 0, 1, 0, 5, true);
        x.setRule(0, 5, wait, 0);
        return x;
    }

    /** RULES of the LAST of METRIC 0, ABOVE 5, with these WAYS. */
    private static void rules(HarbourlightMonitor x, int... ways) {
        for (int way : ways) {
            x.rule(0, 0, 1, way, 5, true);
        }
    }

    private static void tellAll(HarbourlightMonitor x, int value) {
        for (int s = 0; s < x.many(0); s++) {
            x.tell(s, value);
        }
    }

    /** One TICK for each value of SERIES 0: what state the ALERT of RULE 0 is in then. */
    private static void states(HarbourlightMonitor x, int[] values, int... due) {
        for (int i = 0; i < values.length; i++) {
            x.tell(0, values[i]);
            x.tick(1);
            c.due("state at " + x.clock(), x.alert(0, 0, 0), due[i]);
        }
    }

    private static void since(HarbourlightMonitor x, int due) {
        c.due("since when, at " + x.clock(), x.alert(0, 0, 1), due);
    }

    private static void hearing(String when, HarbourlightMonitor x, int rule, int key, int due) {
        c.due(when + ": alert(" + rule + ", " + key + ", 2)", x.alert(rule, key, 2), due);
    }

    private static void sixRules() {
        c.says("At most 6, numbered from 0");
        HarbourlightMonitor x = gauges(0);
        for (int rule = 0; rule < 6; rule++) {
            c.due("its number", x.rule(0, 0, 1, 0, rule, true), rule);
        }
        c.badState("a 7th", x, () -> x.rule(0, 0, 1, 0, 0, true));
        c.due("many(1)", x.many(1), 6);
        for (int rule = 0; rule < 6; rule++) {
            c.due("the LIMIT of RULE " + rule, x.setRule(rule, 0, 0, 0), rule);
        }
        c.badIndex("RULE 6", x, () -> x.setRule(6, 0, 0, 0));
    }

    private static void aNewRule() {
        c.says("Returns its number; WAIT and RANK are 0.");
        HarbourlightMonitor x = watched(0);
        x.rule(0, 0, 1, 0, 5, true);
        x.setRule(1, 5, 20, 3);
        c.due("the last one goes", x.dropRule(), 1);
        c.due("its number again", x.rule(0, 0, 1, 0, 5, true), 1);
        x.tell(0, 6);
        x.tick(1);
        c.due("WAIT is 0 again", x.alert(1, 0, 0), BURNS);
        hearing("RANK is 0 again", x, 0, 0, LOUD);
    }

    private static void keysOfSeries() {
        c.says("a WAY (0 for each SERIES with the METRIC, its number as KEY;");
        HarbourlightMonitor x = new HarbourlightMonitor();
        x.series(1, 1, 0);
        x.series(1, 0, 3);
        x.series(1, 1, 3);
        x.series(1, 0, 3);
        x.rule(0, 0, 1, 0, -1, true);
        x.tick(1);
        int[] due = {GONE, BURNS, GONE, BURNS, GONE, GONE};
        for (int key = 0; key < due.length; key++) {
            c.due("alert(0, " + key + ", 0)", x.alert(0, key, 0), due[key]);
        }
        c.due("beyond, as all are 0", x.beyond(0, -1), 2);
    }

    private static void keysOfPlaces() {
        c.says("1 for each PLACE of such ones, that as KEY, the LOOKS summed up;");
        HarbourlightMonitor x = new HarbourlightMonitor();
        x.series(1, 0, 5);
        x.series(1, 1, 2);
        x.series(1, 0, 3);
        x.series(1, 0, 5);
        x.rule(0, 0, 1, 1, 4, true);
        x.tell(0, 3);
        x.tell(1, 9);
        x.tell(2, 3);
        x.tell(3, 2);
        x.tick(1);
        int[] stands = {0, 0, 0, 3, 0, 5, 0};
        for (int key = 0; key < stands.length; key++) {
            c.due("stands(0, " + key + ")", x.stands(0, key), stands[key]);
            c.due("alert(0, " + key + ", 0)", x.alert(0, key, 0), key == 5 ? BURNS : GONE);
        }
        c.due("two KEYS", x.beyond(0, -10000), 2);
        HarbourlightMonitor y = gauges(0, 0);
        y.rule(0, 2, 2, 1, 0, true);
        y.tell(0, 3);
        y.tell(1, 3);
        y.tick(1);
        tellAll(y, 0);
        y.tick(1);
        c.due("each MEAN is cut, then they are summed up", y.stands(0, 0), 2);
    }

    private static void keyOfAllTogether() {
        c.says("2 for all such ones together, KEY 0, summed up, if there are any)");
        HarbourlightMonitor x = gauges(5, 4, 3);
        x.rule(0, 0, 1, 2, 17, true);
        x.rule(1, 0, 1, 2, -10000, true);
        x.rule(1, 0, 1, 2, 10000, false);
        tellAll(x, 6);
        x.tick(1);
        c.due("stands", x.stands(0, 0), 18);
        c.due("it BURNS", x.alert(0, 0, 0), BURNS);
        c.due("no other KEY", x.alert(0, 5, 0), GONE);
        c.due("one KEY", x.beyond(0, -10000), 1);
        c.due("not any: no KEY", x.beyond(1, -10000) + x.beyond(2, 10000), 0);
        c.due("not any: no ALERT", x.alert(1, 0, 0) + x.alert(2, 0, 0), GONE);
        c.due("not any: burningIn", x.burningIn(10), 1);
        x.series(1, 1, 0);
        x.tick(1);
        c.due("now there is one", x.alert(1, 0, 0) + x.alert(2, 0, 0), BURNS + BURNS);
    }

    private static void lastKeys() {
        c.says("its number as KEY");
        HarbourlightMonitor x = gauges(0, 0, 0, 0, 0, 0, 0, 0, 0, 0, 0, 5);
        rules(x, 0, 0, 0, 0, 0, 1);
        x.tell(11, 6);
        x.tick(1);
        for (int rule = 0; rule < 5; rule++) {
            c.due("alert(" + rule + ", 11, 0)", x.alert(rule, 11, 0), BURNS);
            c.due("alert(" + rule + ", 10, 0)", x.alert(rule, 10, 0), GONE);
        }
        c.due("KEY 5 of PLACES", x.alert(5, 5, 0), BURNS);
        c.due("no KEY 11 of PLACES", x.alert(5, 11, 0), GONE);
        c.due("ALERTS", x.many(3), 6);
        c.due("LOUD", x.many(5), 6);
        tellAll(x, 6);
        x.tick(1);
        c.due("all ALERTS", x.many(3), 62);
    }

    private static void eachKeyIsSeen() {
        c.says("a place among all ALERTS, by RULES, then by KEYS, from 0");
        for (int key = 0; key < 12; key++) {
            HarbourlightMonitor x = gauges(0, 0, 0, 0, 0, 0, 0, 0, 0, 0, 0, 0);
            rules(x, 0, 0, 0, 0, 0, 0);
            x.tell(key, 6);
            x.tick(1);
            for (int rule = 0; rule < 6; rule++) {
                c.due("the RULE of place " + rule, x.alertAt(rule, 0), rule);
                c.due("the KEY of place " + rule, x.alertAt(rule, 1), key);
            }
            x.hush(5, 0, 9);
            x.hush(-1, -1, 9);
            c.due("one HUSH hushes KEY " + key + " of RULE 5", x.ofHush(0, 3), 1);
            c.due("the other one KEY " + key + " of each", x.ofHush(1, 3), 6);
            hearing("KEY " + key + " of RULE 5", x, 5, key, HUSHED);
        }
    }

    private static void justTheLimit() {
        c.says("whether it is ABOVE or below that (just that is neither)");
        int[] limits = {10, 0, -10};
        for (int limit : limits) {
            HarbourlightMonitor x = gauges(0);
            x.rule(0, 0, 1, 0, limit, true);
            x.rule(0, 0, 1, 0, limit, false);
            x.tell(0, limit);
            x.tick(1);
            c.due("just " + limit + ", ABOVE", x.alert(0, 0, 0), GONE);
            c.due("just " + limit + ", below", x.alert(1, 0, 0), GONE);
            c.due("just " + limit + ": beyond", x.beyond(0, limit) + x.beyond(1, limit), 0);
            x.tell(0, limit + 1);
            x.tick(1);
            c.due("1 above " + limit + ", ABOVE", x.alert(0, 0, 0), BURNS);
            c.due("1 above " + limit + ", below", x.alert(1, 0, 0), GONE);
            x.tell(0, limit - 1);
            x.tick(1);
            c.due("1 below " + limit + ", below", x.alert(1, 0, 0), BURNS);
            x.tell(0, limit);
            x.tick(3);
            c.due("just " + limit + " ends one that BURNS", x.many(3), 0);
        }
    }

    private static void limitsAtTheMost() {
        c.says("limit is not -10000 to 10000");
        HarbourlightMonitor x = gauges(0, 0, 0, 0, 0, 0, 0, 0, 0, 0, 0);
        x.rule(0, 0, 1, 2, 10000, true);
        x.rule(0, 0, 1, 2, -10000, false);
        for (int sign = 1; sign >= -1; sign -= 2) {
            tellAll(x, 1000 * sign);
            x.tell(0, 0);
            x.tick(1);
            c.due("just that", x.alert(sign > 0 ? 0 : 1, 0, 0), GONE);
            x.tell(0, sign);
            x.tick(1);
            c.due("1 beyond that", x.alert(sign > 0 ? 0 : 1, 0, 0), BURNS);
        }
    }

    private static void waitZero() {
        c.says("(with WAIT 0 with the TICK with which it comes)");
        HarbourlightMonitor x = watched(0);
        states(x, new int[] {5, 5, 6, 6}, GONE, GONE, BURNS, BURNS);
        since(x, 3);
    }

    private static void waitJustOver() {
        c.says("one that is PENDING, and came WAIT TICKS ago or more");
        int[] waits = {1, 2, 3, 19, 20};
        for (int wait : waits) {
            HarbourlightMonitor x = watched(wait);
            x.tick(4);
            x.tell(0, 6);
            for (int ago = 0; ago < wait; ago++) {
                x.tick(1);
                c.due("WAIT " + wait + ", " + ago + " TICKS ago", x.alert(0, 0, 0), PENDING);
                since(x, 5);
            }
            x.tick(1);
            c.due("WAIT " + wait + ", just over", x.alert(0, 0, 0), BURNS);
            since(x, 5 + wait);
            x.tick(1);
            c.due("WAIT " + wait + ", one TICK later", x.alert(0, 0, 0), BURNS);
            since(x, 5 + wait);
        }
    }

    private static void waitMadeLess() {
        c.says("came WAIT TICKS ago or more");
        HarbourlightMonitor x = watched(20);
        states(x, new int[] {6, 6, 6, 6, 6}, PENDING, PENDING, PENDING, PENDING, PENDING);
        x.setRule(0, 5, 6, 0);
        states(x, new int[] {6}, PENDING);
        x.setRule(0, 5, 2, 0);
        c.due("not without a TICK", x.alert(0, 0, 0), PENDING);
        states(x, new int[] {6}, BURNS);
        since(x, 7);
        HarbourlightMonitor y = watched(20);
        states(y, new int[] {6, 6}, PENDING, PENDING);
        y.setRule(0, 5, 0, 0);
        states(y, new int[] {6}, BURNS);
        since(y, 3);
    }

    private static void waitMadeMore() {
        c.says("`wait`: its WAIT from now on");
        HarbourlightMonitor x = watched(2);
        states(x, new int[] {6, 6}, PENDING, PENDING);
        x.setRule(0, 5, 4, 0);
        states(x, new int[] {6, 6, 6}, PENDING, PENDING, BURNS);
        since(x, 5);
        x.setRule(0, 5, 20, 0);
        states(x, new int[] {6, 5, 6}, BURNS, BURNS, BURNS);
        since(x, 5);
    }

    private static void overButNotBeyond() {
        c.says("BURNS, since then, if it is beyond with the TICK that goes by");
        HarbourlightMonitor x = watched(2);
        states(x, new int[] {6, 6, 5, 6, 6, 6}, PENDING, PENDING, GONE, PENDING, PENDING, BURNS);
        since(x, 6);
        HarbourlightMonitor y = watched(2);
        states(y, new int[] {6, 6}, PENDING, PENDING);
        y.setRule(0, 6, 0, 0);
        states(y, new int[] {6, 7}, GONE, BURNS);
        since(y, 4);
    }

    private static void pendingGoes() {
        c.says("as it is not beyond the LIMIT: one that is PENDING goes");
        HarbourlightMonitor x = watched(1);
        states(x, new int[] {6, 5}, PENDING, GONE);
        since(x, NONE);
        c.due("ALERTS", x.many(3), 0);
        states(x, new int[] {6, 5, 6}, PENDING, GONE, PENDING);
        since(x, 5);
        states(x, new int[] {6}, BURNS);
        since(x, 6);
    }

    private static void thirdTickInARow() {
        c.says("one that BURNS goes with the third TICK in a row with which it is not");
        HarbourlightMonitor x = watched(0);
        states(x, new int[] {6, 5, 5}, BURNS, BURNS, BURNS);
        since(x, 1);
        hearing("it is LOUD all the while", x, 0, 0, LOUD);
        c.due("ALERTS that BURN", x.many(4), 1);
        states(x, new int[] {5}, GONE);
        since(x, NONE);
        hearing("it is gone", x, 0, 0, NOT_BURNING);
        HarbourlightMonitor y = watched(0);
        y.tell(0, 6);
        y.tick(10);
        y.tell(0, 5);
        y.tick(2);
        c.due("2 TICKS of one call", y.alert(0, 0, 0), BURNS);
        y.tell(0, 6);
        y.tell(0, 5);
        y.tick(1);
        c.due("told beyond without a TICK", y.alert(0, 0, 0), GONE);
    }

    private static void countedAnew() {
        c.says("(counted anew as it is again)");
        HarbourlightMonitor x = watched(0);
        states(x, new int[] {6, 5, 5, 6, 5, 5}, BURNS, BURNS, BURNS, BURNS, BURNS, BURNS);
        states(x, new int[] {6, 5, 6, 5, 5}, BURNS, BURNS, BURNS, BURNS, BURNS);
        since(x, 1);
        states(x, new int[] {5}, GONE);
        HarbourlightMonitor y = watched(3);
        states(y, new int[] {5, 5, 6, 6, 6, 6, 5, 5}, GONE, GONE, PENDING, PENDING, PENDING, BURNS, BURNS, BURNS);
        y.setRule(0, 4, 3, 0);
        states(y, new int[] {5}, BURNS);
        y.setRule(0, 5, 3, 0);
        states(y, new int[] {5, 5, 5}, BURNS, BURNS, GONE);
    }

    private static void comesAgain() {
        c.says("as it is beyond the LIMIT and there is none, one comes, PENDING since then");
        HarbourlightMonitor x = watched(1);
        states(x, new int[] {6, 6, 5, 5, 5}, PENDING, BURNS, BURNS, BURNS, GONE);
        states(x, new int[] {6, 6, 5, 5, 6, 5, 5, 5}, PENDING, BURNS, BURNS, BURNS, BURNS, BURNS, BURNS, GONE);
        states(x, new int[] {5, 6}, GONE, PENDING);
        since(x, 15);
    }

    private static void setRuleLetsAlertsStay() {
        c.says("`limit`: its LIMIT from now on (ALERTS stay)");
        HarbourlightMonitor x = watched(0);
        states(x, new int[] {6}, BURNS);
        c.due("the LIMIT before", x.setRule(0, 10000, 20, 0), 5);
        c.due("it BURNS on", x.alert(0, 0, 0), BURNS);
        states(x, new int[] {6, 6, 6}, BURNS, BURNS, GONE);
        c.due("the LIMIT before", x.setRule(0, -10000, 0, 0), 10000);
        c.due("none comes without a TICK", x.alert(0, 0, 0), GONE);
        states(x, new int[] {6}, BURNS);
        HarbourlightMonitor y = watched(5);
        states(y, new int[] {6}, PENDING);
        y.setRule(0, 10000, 5, 0);
        c.due("it is PENDING on", y.alert(0, 0, 0), PENDING);
    }

    private static void placesOfAlerts() {
        c.says("The PLACE of an ALERT: that of the SERIES, or its KEY, or with WAY 2 NONE.");
        HarbourlightMonitor x = gauges(5, 0, 3);
        rules(x, 0, 1, 2);
        tellAll(x, 6);
        x.tick(1);
        int[] keys = {0, 1, 2, 0, 3, 5, 0};
        int[] places = {5, 0, 3, 0, 3, 5, NONE};
        for (int i = 0; i < places.length; i++) {
            c.due("alertAt(" + i + ", 1)", x.alertAt(i, 1), keys[i]);
            c.due("alertAt(" + i + ", 2)", x.alertAt(i, 2), places[i]);
        }
    }

    private static void fiveHushes() {
        c.says("HUSHED is an ALERT by a HUSH: at most 5, numbered from 0");
        HarbourlightMonitor x = watched(0);
        for (int h = 0; h < 5; h++) {
            c.due("its number", x.hush(-1, h, 1), h);
        }
        c.badState("a 6th", x, () -> x.hush(-1, -1, 1));
        x.tick(2);
        c.due("HUSHES, also those that are over", x.many(2), 5);
        c.badState("a 6th, as all are over", x, () -> x.hush(-1, -1, 1));
        c.due("left", x.unhush(4), 4);
        c.due("a number again", x.hush(-1, 5, 1), 4);
        c.due("left", x.unhush(0), 4);
        c.due("the next number, not the one that went", x.hush(-1, 5, 1), 4);
    }

    private static void hushOfEach() {
        c.says("each for a RULE (or NONE: each) and a PLACE (or NONE: each, also NONE)");
        int[][] hushes = {{0, 0}, {0, 5}, {0, -1}, {1, 0}, {1, 5}, {1, -1}, {-1, 0}, {-1, 5}, {-1, -1}};
        boolean[][] covered = {
            {true, false, false}, {false, true, false}, {true, true, false}, {false, false, false}, {false, false, false},
            {false, false, true}, {true, false, false}, {false, true, false}, {true, true, true},
        };
        for (int i = 0; i < hushes.length; i++) {
            HarbourlightMonitor x = gauges(0, 5);
            rules(x, 0, 2);
            tellAll(x, 6);
            x.tick(1);
            x.hush(hushes[i][0], hushes[i][1], 1);
            String name = "hush(" + hushes[i][0] + ", " + hushes[i][1] + ", 1)";
            hearing(name, x, 0, 0, covered[i][0] ? HUSHED : LOUD);
            hearing(name, x, 0, 1, covered[i][1] ? HUSHED : LOUD);
            hearing(name, x, 1, 0, covered[i][2] ? HUSHED : LOUD);
        }
    }

    private static void hushTillAClock() {
        c.says("till a CLOCK (that as it is added + TICKS): as long as the CLOCK is below that");
        int[] ticks = {1, 2, 59, 60};
        for (int of : ticks) {
            HarbourlightMonitor x = watched(0);
            x.tell(0, 6);
            x.tick(3);
            x.hush(0, 0, of);
            c.due("till", x.ofHush(0, 2), 3 + of);
            for (int t = 0; t < of; t++) {
                hearing("at " + x.clock() + " of " + (3 + of), x, 0, 0, HUSHED);
                c.due("it hushes one", x.ofHush(0, 3), 1);
                x.tick(1);
            }
            hearing("just till when it is", x, 0, 0, LOUD);
            c.due("it hushes none", x.ofHush(0, 3), 0);
            x.tick(1);
            hearing("one TICK later", x, 0, 0, LOUD);
        }
    }

    private static void hushedByTwo() {
        c.says("HUSHED is an ALERT by a HUSH");
        HarbourlightMonitor x = watched(0);
        x.tell(0, 6);
        x.tick(1);
        x.hush(0, 0, 1);
        x.hush(-1, -1, 2);
        hearing("by both", x, 0, 0, HUSHED);
        x.tick(1);
        hearing("one is over", x, 0, 0, HUSHED);
        x.tick(1);
        hearing("both are over", x, 0, 0, LOUD);
    }

    private static void hushes(HarbourlightMonitor x, int... places) {
        c.due("HUSHES", x.many(2), places.length);
        for (int h = 0; h < places.length; h++) {
            c.due("the PLACE of HUSH " + h, x.ofHush(h, 1), places[h]);
            c.due("till when HUSH " + h + " is", x.ofHush(h, 2), 10 + places[h]);
        }
        c.badIndex("the one behind them", x, () -> x.ofHush(places.length, 1));
    }

    private static HarbourlightMonitor fiveOf(int... rules) {
        HarbourlightMonitor x = gauges(0);
        rules(x, 0, 0, 0);
        for (int h = 0; h < rules.length; h++) {
            x.hush(rules[h], h, 10 + h);
        }
        return x;
    }

    private static void unhushMovesUp() {
        c.says("Takes a HUSH away; those behind it move up.");
        int[][] left = {{1, 2, 3, 4}, {0, 2, 3, 4}, {0, 1, 3, 4}, {0, 1, 2, 4}, {0, 1, 2, 3}};
        for (int h = 0; h < 5; h++) {
            HarbourlightMonitor x = fiveOf(-1, -1, -1, -1, -1);
            c.due("how many are left", x.unhush(h), 4);
            hushes(x, left[h]);
        }
        HarbourlightMonitor y = fiveOf(-1, -1, -1, -1, -1);
        y.unhush(1);
        y.unhush(2);
        hushes(y, 0, 2, 4);
        c.due("left", y.unhush(2), 2);
        c.due("left", y.unhush(0), 1);
        hushes(y, 2);
        c.due("left", y.unhush(0), 0);
        hushes(y);
    }

    private static void dropRuleTakesHushes() {
        c.says("Takes the last RULE away, with its ALERTS, and each HUSH for just it (those behind move up).");
        int[][] of = {{2, 2, 2, 2, 2}, {2, 2, -1, 2, 2}, {-1, 2, 2, 1, 2}, {0, 1, -1, 1, 0}, {2, 1, 2, 0, -1}, {1, 0, 2, 2, 2}};
        int[][] left = {{}, {2}, {0, 3}, {0, 1, 2, 3, 4}, {1, 3, 4}, {0, 1}};
        for (int i = 0; i < of.length; i++) {
            HarbourlightMonitor x = fiveOf(of[i]);
            c.due("RULES left", x.dropRule(), 2);
            hushes(x, left[i]);
            for (int h = 0; h < left[i].length; h++) {
                c.due("the RULE of HUSH " + h, x.ofHush(h, 0), of[i][left[i][h]]);
            }
        }
        HarbourlightMonitor y = fiveOf(0, 1, 2, -1, 0);
        c.due("RULES left", y.dropRule() * 100 + y.dropRule() * 10 + y.dropRule(), 210);
        hushes(y, 3);
    }

    private static void dropRuleTakesAlerts() {
        c.says("Takes the last RULE away, with its ALERTS");
        HarbourlightMonitor x = gauges(0, 1);
        rules(x, 0, 1);
        x.setRule(1, 5, 9, 0);
        tellAll(x, 6);
        x.tick(1);
        c.due("ALERTS", x.many(3), 4);
        x.dropRule();
        c.due("ALERTS of RULE 0 stay", x.many(3), 2);
        c.badIndex("none of RULE 1", x, () -> x.alertAt(2, 0));
        x.rule(0, 0, 1, 1, 5, true);
        c.due("none comes back", x.many(3), 2);
        c.due("none comes back", x.alert(1, 0, 0), GONE);
        c.due("since when", x.alert(1, 0, 1), NONE);
        x.setRule(1, 5, 2, 0);
        x.tick(1);
        c.due("it comes anew", x.alert(1, 0, 1), 2);
    }

    /** RULE 0 with this RANK, and RULE 1 with that one; both BURN. */
    private static HarbourlightMonitor ranked(int rank0, int way0, int rank1, int way1, int... places) {
        HarbourlightMonitor x = gauges(places);
        rules(x, way0, way1);
        x.setRule(0, 5, 0, rank0);
        x.setRule(1, 5, 0, rank1);
        tellAll(x, 6);
        x.tick(1);
        return x;
    }

    private static void quietByRank() {
        c.says("QUIET is one, if another one, whose RULE has a greater RANK");
        for (int rank0 = 0; rank0 <= 3; rank0++) {
            for (int rank1 = 0; rank1 <= 3; rank1++) {
                HarbourlightMonitor x = ranked(rank0, 0, rank1, 0, 2);
                hearing("RANKS " + rank0 + " and " + rank1, x, 0, 0, rank1 > rank0 ? QUIET : LOUD);
                hearing("RANKS " + rank0 + " and " + rank1, x, 1, 0, rank0 > rank1 ? QUIET : LOUD);
                c.due("how many are LOUD", x.many(5), rank0 == rank1 ? 2 : 1);
            }
        }
        HarbourlightMonitor y = ranked(1, 0, 0, 0, 2);
        hearing("ahead of setRule", y, 1, 0, QUIET);
        y.setRule(1, 5, 0, 1);
        hearing("the RANK from now on", y, 1, 0, LOUD);
        y.setRule(1, 5, 0, 2);
        hearing("the RANK from now on", y, 0, 0, QUIET);
    }

    private static void quietByPlace() {
        c.says("with the same PLACE, or with the PLACE NONE, BURNS");
        HarbourlightMonitor series = ranked(0, 0, 1, 1, 0, 5);
        hearing("PLACE 0 by PLACE 0", series, 0, 0, QUIET);
        hearing("PLACE 5 by PLACE 5", series, 0, 1, QUIET);
        series.tell(1, 0);
        series.tick(3);
        series.tell(1, 6);
        series.setRule(1, 5, 20, 1);
        series.tick(1);
        hearing("PLACE 0 by PLACE 0", series, 0, 0, QUIET);
        hearing("PLACE 5, with PLACE 0 alone", series, 0, 1, LOUD);
        HarbourlightMonitor byAll = ranked(0, 0, 1, 2, 0, 5);
        hearing("PLACE 0 by NONE", byAll, 0, 0, QUIET);
        hearing("PLACE 5 by NONE", byAll, 0, 1, QUIET);
        HarbourlightMonitor ofAll = ranked(0, 2, 1, 0, 0, 5);
        hearing("NONE by PLACES", ofAll, 0, 0, LOUD);
        HarbourlightMonitor allByAll = ranked(0, 2, 1, 2, 0, 5);
        hearing("NONE by NONE", allByAll, 0, 0, QUIET);
        hearing("not by itself", allByAll, 1, 0, LOUD);
    }

    private static void quietByEachKey() {
        c.says("QUIET is one, if another one, whose RULE has a greater RANK, with the same PLACE");
        for (int key = 1; key < 12; key++) {
            for (int rule = 1; rule < 6; rule++) {
                HarbourlightMonitor x = gauges(0, 0, 0, 0, 0, 0, 0, 0, 0, 0, 0, 0);
                rules(x, 0, 0, 0, 0, 0, 0);
                x.setRule(rule, 5, 0, 1);
                x.setRule(0, -1, 0, 0);
                x.tell(key, 6);
                x.tick(1);
                hearing("by KEY " + key + " of RULE " + rule, x, 0, 0, QUIET);
                hearing("by KEY " + key + " of RULE " + rule, x, 0, 11, QUIET);
                c.due("all but that one", x.many(5), 1);
                x.hush(rule, 0, 9);
                hearing("as it is HUSHED", x, 0, 0, LOUD);
            }
        }
    }

    private static void quietByOneThatBurns() {
        c.says("with the same PLACE, or with the PLACE NONE, BURNS, and is not HUSHED");
        HarbourlightMonitor x = gauges(4);
        rules(x, 0, 0);
        x.setRule(1, 5, 2, 3);
        x.tell(0, 6);
        x.tick(2);
        hearing("by one that is PENDING", x, 0, 0, LOUD);
        x.tick(1);
        hearing("by one that BURNS", x, 0, 0, QUIET);
        x.setRule(1, 6, 2, 3);
        x.tick(2);
        hearing("by one that BURNS on", x, 0, 0, QUIET);
        x.tick(1);
        hearing("by one that is gone", x, 0, 0, LOUD);
    }

    private static void quietByOneNotHushed() {
        c.says("BURNS, and is not HUSHED");
        HarbourlightMonitor x = ranked(0, 0, 1, 0, 2, 3);
        x.hush(1, 2, 3);
        hearing("by one that is HUSHED", x, 0, 0, LOUD);
        hearing("by another one, that is not", x, 0, 1, QUIET);
        x.tick(2);
        hearing("as the HUSH is not over", x, 0, 0, LOUD);
        x.tick(1);
        hearing("as the HUSH is over", x, 0, 0, QUIET);
        x.hush(0, 2, 9);
        hearing("HUSHED, and QUIET, too", x, 0, 0, HUSHED);
    }

    private static void quietByOneHushedElsewhere() {
        c.says("or with the PLACE NONE, BURNS, and is not HUSHED");
        for (int place = -1; place <= 5; place++) {
            HarbourlightMonitor x = ranked(0, 0, 1, 2, 0, 5);
            x.hush(1, place, 9);
            // A HUSH for a PLACE does not hush the one with the PLACE NONE, not even for those at that PLACE.
            hearing("the one with the PLACE NONE, with a HUSH for " + place, x, 1, 0, place == NONE ? HUSHED : LOUD);
            hearing("PLACE 0, with a HUSH for " + place, x, 0, 0, place == NONE ? LOUD : QUIET);
            hearing("PLACE 5, with a HUSH for " + place, x, 0, 1, place == NONE ? LOUD : QUIET);
            c.due("LOUD", x.many(5), place == NONE ? 2 : 1);
            HarbourlightMonitor y = ranked(0, 2, 1, 2, 0, 5);
            y.hush(1, place, 9);
            hearing("NONE by NONE, with a HUSH for " + place, y, 0, 0, place == NONE ? LOUD : QUIET);
        }
    }

    private static void quietByOneThatIsQuiet() {
        c.says("(whether that is QUIET itself is not asked)");
        HarbourlightMonitor x = gauges(2);
        rules(x, 0, 1, 2);
        x.setRule(1, 5, 0, 1);
        x.setRule(2, 5, 0, 2);
        x.tell(0, 6);
        x.tick(1);
        hearing("the midst", x, 1, 2, QUIET);
        hearing("the lowest", x, 0, 0, QUIET);
        x.hush(2, -1, 9);
        hearing("the midst, as the greatest is HUSHED", x, 1, 2, LOUD);
        hearing("the lowest, as the greatest is HUSHED", x, 0, 0, QUIET);
        x.unhush(0);
        x.hush(1, -1, 9);
        hearing("the lowest, as the midst is HUSHED", x, 0, 0, QUIET);
    }

    private static void standsOutsideOfKeys() {
        c.says("Returns what it looks at, as of the latest SAMPLES; 0 if it has no such KEY.");
        HarbourlightMonitor x = gauges(1, 1);
        rules(x, 0, 1, 2);
        tellAll(x, 7);
        c.due("without SAMPLES", x.stands(0, 0), 0);
        x.tick(1);
        tellAll(x, 9);
        c.due("KEY 1 of SERIES", x.stands(0, 1), 7);
        c.due("KEY 2 of SERIES", x.stands(0, 2), 0);
        c.due("KEY 0 of PLACES", x.stands(1, 0), 0);
        c.due("KEY 1 of PLACES", x.stands(1, 1), 14);
        c.due("KEY 0 of all", x.stands(2, 0), 14);
        c.due("KEY 1 of all", x.stands(2, 1), 0);
        c.due("KEY NONE of all", x.stands(2, NONE), 0);
        for (int rule = 0; rule < 3; rule++) {
            for (int key : FAR) {
                c.due("stands(" + rule + ", " + key + ")", x.stands(rule, key), 0);
            }
        }
    }

    private static void alertOutsideOfKeys() {
        c.says("0 0 without an ALERT, 1 PENDING, 2 BURNING, 1 since when it is that (NONE without one)");
        HarbourlightMonitor x = gauges(0, 1);
        rules(x, 0, 1, 2);
        tellAll(x, 7);
        x.tick(1);
        for (int rule = 0; rule < 3; rule++) {
            for (int key : FAR) {
                c.due("alert(" + rule + ", " + key + ", 0)", x.alert(rule, key, 0), GONE);
                c.due("alert(" + rule + ", " + key + ", 1)", x.alert(rule, key, 1), NONE);
                c.due("alert(" + rule + ", " + key + ", 2)", x.alert(rule, key, 2), NOT_BURNING);
            }
        }
        c.due("nothing has come of it", x.many(3), 5);
    }

    private static void sinceWhen() {
        c.says("1 since when it is that (NONE without one)");
        HarbourlightMonitor x = watched(1);
        since(x, NONE);
        x.tick(1);
        since(x, NONE);
        states(x, new int[] {6}, PENDING);
        since(x, 2);
        states(x, new int[] {6, 6}, BURNS, BURNS);
        since(x, 3);
        states(x, new int[] {5, 5}, BURNS, BURNS);
        since(x, 3);
        states(x, new int[] {5}, GONE);
        since(x, NONE);
    }

    private static void heardOrNot() {
        c.says("2 0 if it is LOUD, 1 if it does not BURN, 2 HUSHED, 3 QUIET (and not HUSHED; 1 without one)");
        HarbourlightMonitor x = watched(2);
        hearing("without one", x, 0, 0, NOT_BURNING);
        x.tell(0, 6);
        x.tick(1);
        hearing("PENDING", x, 0, 0, NOT_BURNING);
        x.hush(0, -1, 60);
        hearing("PENDING, with a HUSH", x, 0, 0, NOT_BURNING);
        x.rule(0, 0, 1, 2, 5, true);
        x.setRule(1, 5, 0, 3);
        x.tick(1);
        hearing("PENDING, with one that keeps others quiet", x, 0, 0, NOT_BURNING);
        x.tick(1);
        hearing("HUSHED, and QUIET, too", x, 0, 0, HUSHED);
        x.unhush(0);
        hearing("QUIET", x, 0, 0, QUIET);
        x.hush(1, -1, 60);
        hearing("LOUD", x, 0, 0, LOUD);
        hearing("the other one", x, 1, 0, HUSHED);
    }

    private static void alertsByRulesThenKeys() {
        c.says("a place among all ALERTS, by RULES, then by KEYS, from 0");
        HarbourlightMonitor x = gauges(5, 0, 5, 1);
        rules(x, 2, 0, 1);
        x.setRule(1, 5, 20, 0);
        x.tell(3, 6);
        x.tick(1);
        x.tell(0, 6);
        x.tick(1);
        int[][] due = {{0, 0, -1}, {1, 0, 5}, {1, 3, 1}, {2, 1, 1}, {2, 5, 5}};
        for (int place = 0; place < due.length; place++) {
            for (int what = 0; what <= 2; what++) {
                c.due("alertAt(" + place + ", " + what + ")", x.alertAt(place, what), due[place][what]);
            }
        }
        c.due("ALERTS", x.many(3), 5);
        c.badIndex("alertAt(5)", x, () -> x.alertAt(5, 0));
        c.badIndex("alertAt(-1)", x, () -> x.alertAt(-1, 0));
        c.badIndex("alertAt far", x, () -> x.alertAt(Integer.MIN_VALUE, 0));
        c.badIndex("alertAt far", x, () -> x.alertAt(Integer.MIN_VALUE + 2, 0));
        c.badIndex("alertAt far", x, () -> x.alertAt(Integer.MAX_VALUE, 0));
    }

    private static void hushesHowMany() {
        c.says("3 how many ALERTS it hushes now (PENDING ones, too; 0, if it is over)");
        HarbourlightMonitor x = gauges(0, 5);
        rules(x, 0, 2);
        x.setRule(0, 5, 20, 0);
        x.hush(-1, -1, 2);
        x.hush(0, -1, 3);
        x.hush(0, 5, 3);
        x.hush(1, 5, 60);
        x.hush(1, -1, 60);
        c.due("without ALERTS", x.ofHush(0, 3), 0);
        tellAll(x, 6);
        x.tick(1);
        int[][] due = {{3, 2, 1, 0, 1}, {0, 2, 1, 0, 1}, {0, 0, 0, 0, 1}};
        for (int[] row : due) {
            for (int h = 0; h < 5; h++) {
                c.due("ofHush(" + h + ", 3) at " + x.clock(), x.ofHush(h, 3), row[h]);
            }
            x.tick(1);
        }
        tellAll(x, 0);
        x.tick(3);
        c.due("as they are gone", x.ofHush(4, 3), 0);
        c.due("HUSHES, also those that are over", x.many(2), 5);
    }

    private static void noneIsBelowZero() {
        c.says("NONE is -1.");
        HarbourlightMonitor x = gauges(0);
        rules(x, 2);
        c.due("as an argument", x.hush(-1, -1, 1), 0);
        c.due("the RULE of a HUSH", x.ofHush(0, 0), -1);
        c.due("the PLACE of a HUSH", x.ofHush(0, 1), -1);
        c.due("since when, without an ALERT", x.alert(0, 0, 1), -1);
        tellAll(x, 6);
        x.tick(2);
        c.due("the PLACE of an ALERT", x.alertAt(0, 2), -1);
        x.hush(0, -1, 9);
        x.tick(1);
        c.due("the RANK of none", x.notice(0, 3), -1);
        c.badIndex("it is no RULE", x, () -> x.setRule(-1, 0, 0, 0));
    }

    private static void howManyOfEach() {
        c.says("0 how many SERIES, 1 RULES, 2 HUSHES (also those that are over), 3 ALERTS, 4 how many of these BURN, 5 how many "
                + "are LOUD, 6 how many NOTICES went out ever");
        HarbourlightMonitor x = gauges(0, 1, 2, 3);
        rules(x, 0, 1);
        x.setRule(1, 5, 20, 3);
        x.hush(0, 0, 1);
        x.hush(0, 3, 9);
        x.hush(1, -1, 2);
        tellAll(x, 6);
        x.tell(1, 0);
        x.tick(1);
        // 3 ALERTS of RULE 0 BURN, one of them HUSHED; 3 of RULE 1 are PENDING.
        int[] due = {4, 2, 3, 6, 3, 2, 0};
        for (int what = 0; what <= 6; what++) {
            c.due("many(" + what + ")", x.many(what), due[what]);
        }
        x.tick(1);
        c.due("NOTICES", x.many(6), 1);
        x.setRule(1, 5, 0, 3);
        x.tick(1);
        // Those of RULE 1 BURN, too, and keep the others quiet.
        int[] then = {4, 2, 3, 6, 6, 3, 1};
        for (int what = 0; what <= 6; what++) {
            c.due("many(" + what + ") then", x.many(what), then[what]);
        }
    }
}

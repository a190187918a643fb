/** Terms 3 and 4 and promises 7, 10 to 12 and 22: a test for each sentence that names an edge of NOTICES and TICKS. */
public final class NoticeEdgesTest {
    private static final int NONE = -1;

    private static final Checks c = new Checks();

    public static void main(String[] args) {
        withTheTickAhead();
        withTheTickAheadOfOthers();
        withTheTickAheadOfADroppedRule();
        notWithTheTickAhead();
        afterOneOfNone();
        threeTicksForAnotherSet();
        anotherSetLater();
        anotherSetOfAsMany();
        anotherSetOfAnotherRule();
        theSameSetAgain();
        theSameSetOfOtherAlerts();
        theSetOfEachRuleAndKey();
        repeatOfTen();
        repeatAtItsEnds();
        repeatMadeLess();
        repeatMadeMore();
        repeatSinceTheLatest();
        repeatOfAnotherSet();
        noneAtOnce();
        noneOnlyOnce();
        noneOfADroppedRule();
        noneOfADroppedRuleByRules();
        noneOfADroppedRuleByPlaces();
        droppedAheadOfTheFirst();
        quietAndHushedAreNotToldOf();
        quietByOneThatComesWithTheTick();
        latestThatIsNotKept();
        latestOfNoneThatIsNotKept();
        groupingAnew();
        groupingAnewWithTold();
        groupingAnewOfEachGroup();
        groupingTheSame();
        thirtyKept();
        groupsByNumbers();
        groupsOfPlaces();
        groupsAreApart();
        ranksAsItWentOut();
        lastRuleAndKey();
        latestFirst();
        theClockAtFirst();
        aTickInOrder();
        ticksOfOneCall();
        c.end();
    }

    /** GAUGES of METRIC 0 at these places, and RULE 0 of each of them, ABOVE 5. */
    private static HarbourlightMonitor watched(int... places) {
        HarbourlightMonitor x = new HarbourlightMonitor();
        for (int place : places) {
            x.series(1, 0, place);
        }
        x.rule(0, 0, 1, 0, 5, true);
        return x;
    }

    /** Such ones, of which the first one was told of at 2. */
    private static HarbourlightMonitor told(int... places) {
        HarbourlightMonitor x = watched(places);
        x.tell(0, 6);
        c.due("the first NOTICE", x.tick(2), 1);
        return x;
    }

    private static void tellAll(HarbourlightMonitor x, int value) {
        for (int s = 0; s < x.many(0); s++) {
            x.tell(s, value);
        }
    }

    /** How many NOTICES go out with each TICK. */
    private static void sent(HarbourlightMonitor x, int... due) {
        for (int each : due) {
            long got = x.tick(1);
            c.due("NOTICES at " + x.clock(), got, each);
        }
    }

    private static void quietTill(HarbourlightMonitor x, int clock) {
        while (x.clock() < clock) {
            sent(x, 0);
        }
    }

    private static void notice(HarbourlightMonitor x, int back, int when, int group, int told, int rank) {
        int[] due = {when, group, told, rank};
        for (int what = 0; what <= 3; what++) {
            c.due("notice(" + back + ", " + what + ") at " + x.clock(), x.notice(back, what), due[what]);
        }
    }

    private static void withTheTickAhead() {
        c.says("a NOTICE goes out, if the GROUP had LOUD ones with the TICK ahead, too");
        HarbourlightMonitor x = watched(0);
        x.tell(0, 6);
        sent(x, 0, 1, 0);
        notice(x, 0, 2, 0, 1, 0);
        HarbourlightMonitor y = watched(0);
        y.setRule(0, 5, 2, 3);
        y.tell(0, 6);
        sent(y, 0, 0, 0, 1);
        notice(y, 0, 4, 0, 1, 3);
        HarbourlightMonitor z = watched(0);
        sent(z, 0, 0, 0);
        c.due("never LOUD, never told", z.many(6), 0);
    }

    private static void withTheTickAheadOfOthers() {
        c.says("if the GROUP had LOUD ones with the TICK ahead, too");
        HarbourlightMonitor x = watched(0, 1);
        x.tell(0, 6);
        sent(x, 0);
        x.hush(0, 0, 9);
        x.tell(1, 6);
        // Another one is LOUD than with the TICK ahead, but the GROUP is the same.
        sent(x, 1);
        notice(x, 0, 2, 0, 1, 0);
        HarbourlightMonitor y = watched(0, 1);
        y.group(2, 10);
        y.tell(0, 6);
        sent(y, 0);
        y.hush(0, 0, 9);
        y.tell(1, 6);
        sent(y, 0, 1);
        notice(y, 0, 3, 1, 1, 0);
    }

    private static void withTheTickAheadOfADroppedRule() {
        c.says("if the GROUP had LOUD ones with the TICK ahead, too");
        for (int grouping = 0; grouping <= 2; grouping++) {
            HarbourlightMonitor x = watched(0);
            x.group(grouping, 10);
            x.tell(0, 6);
            sent(x, 0);
            x.dropRule();
            x.rule(0, 0, 1, 0, 5, true);
            // The GROUP is the same by its number, whether its ALERT is an old one or came with this TICK.
            sent(x, 1);
            notice(x, 0, 2, 0, 1, 0);
            HarbourlightMonitor y = watched(0);
            y.group(grouping, 10);
            y.tell(0, 6);
            sent(y, 0);
            y.dropRule();
            sent(y, 0);
            y.rule(0, 0, 1, 0, 5, true);
            // There was a TICK without any.
            sent(y, 0, 1);
            notice(y, 0, 4, 0, 1, 0);
        }
    }

    private static void notWithTheTickAhead() {
        c.says("and none were told of in the latest NOTICE of the GROUP (or there was none)");
        HarbourlightMonitor x = watched(0);
        x.tell(0, 6);
        sent(x, 0);
        x.hush(0, 0, 2);
        sent(x, 0);
        // Over at 3: LOUD with that TICK, but not with the one ahead of it.
        sent(x, 0, 1);
        notice(x, 0, 4, 0, 1, 0);
        HarbourlightMonitor y = watched(0);
        y.tell(0, 6);
        sent(y, 0);
        y.hush(0, 0, 1);
        // Over with the TICK that goes by: LOUD with both.
        sent(y, 1);
        HarbourlightMonitor z = watched(0);
        z.tell(0, 6);
        sent(z, 0);
        z.hush(0, 0, 5);
        z.unhush(0);
        // HUSHED between two TICKS alone.
        sent(z, 1);
    }

    private static void afterOneOfNone() {
        c.says("if there are any, and none were told of in the latest NOTICE of the GROUP");
        HarbourlightMonitor x = told(0);
        x.hush(0, 0, 1 + 1);
        sent(x, 1, 0, 1, 0);
        notice(x, 0, 5, 0, 1, 0);
        notice(x, 1, 3, 0, 0, NONE);
        notice(x, 2, 2, 0, 1, 0);
        // REPEAT and 3 TICKS do not count behind a NOTICE of none.
        x.hush(0, 0, 30);
        sent(x, 1);
        for (int t = 0; t < 28; t++) {
            sent(x, 0);
        }
        sent(x, 0, 1);
        notice(x, 0, 37, 0, 1, 0);
    }

    private static void threeTicksForAnotherSet() {
        c.says("one goes out, if the set is another one than in that, and 3 TICKS or more went by since");
        HarbourlightMonitor x = told(0, 1);
        x.tell(1, 6);
        sent(x, 0, 0, 1, 0);
        notice(x, 0, 5, 0, 2, 0);
        HarbourlightMonitor y = told(0, 1);
        sent(y, 0);
        y.tell(1, 6);
        sent(y, 0, 1, 0);
        notice(y, 0, 5, 0, 2, 0);
        HarbourlightMonitor z = told(0, 1);
        sent(z, 0, 0);
        z.tell(1, 6);
        // Another set just with the third TICK: at once.
        sent(z, 1, 0);
        notice(z, 0, 5, 0, 2, 0);
    }

    private static void anotherSetLater() {
        c.says("and 3 TICKS or more went by since");
        for (int later = 4; later <= 9; later++) {
            HarbourlightMonitor x = told(0, 1);
            quietTill(x, 2 + later - 1);
            x.tell(1, 6);
            sent(x, 1, 0, 0, 0);
            notice(x, 0, 2 + later, 0, 2, 0);
        }
        HarbourlightMonitor y = told(0, 1, 2);
        y.tell(1, 6);
        sent(y, 0, 0, 1);
        y.tell(2, 6);
        // 3 TICKS since the latest one, not since the first one.
        sent(y, 0, 0, 1);
        notice(y, 0, 8, 0, 3, 0);
    }

    private static void anotherSetOfAsMany() {
        c.says("if the set is another one than in that");
        HarbourlightMonitor x = told(0, 1);
        x.tell(1, 6);
        x.hush(0, 0, 60);
        sent(x, 0, 0, 1);
        notice(x, 0, 5, 0, 1, 0);
        HarbourlightMonitor fewer = watched(0, 1);
        tellAll(fewer, 6);
        sent(fewer, 0, 1);
        fewer.hush(0, 1, 60);
        sent(fewer, 0, 0, 1);
        notice(fewer, 0, 5, 0, 1, 0);
        notice(fewer, 1, 2, 0, 2, 0);
    }

    private static void anotherSetOfAnotherRule() {
        c.says("with the set of its LOUD ones now, by the numbers of RULE and KEY");
        HarbourlightMonitor x = watched(0);
        x.rule(0, 0, 1, 0, 5, true);
        x.hush(1, -1, 60);
        x.tell(0, 6);
        sent(x, 0, 1);
        x.hush(0, -1, 60);
        x.unhush(0);
        // The same KEY of another RULE.
        sent(x, 0, 0, 1);
        notice(x, 0, 5, 0, 1, 0);
        HarbourlightMonitor y = watched(0, 0, 0, 0, 0, 0, 0, 0, 0, 0, 0, 0);
        y.tell(0, 6);
        sent(y, 0, 1);
        y.tell(11, 6);
        y.hush(0, 0, 1);
        sent(y, 0, 0, 1);
        notice(y, 0, 5, 0, 2, 0);
    }

    private static void theSameSetAgain() {
        c.says("if the set is another one than in that");
        HarbourlightMonitor x = told(0, 1);
        x.tell(1, 6);
        // Another one with the TICKS to 3 and 4, the same one again from 5 on.
        sent(x, 0, 0);
        x.hush(0, 1, 60);
        sent(x, 0, 0, 0, 0, 0, 0, 0, 1);
        notice(x, 0, 12, 0, 1, 0);
    }

    private static void theSameSetOfOtherAlerts() {
        c.says("by the numbers of RULE and KEY");
        HarbourlightMonitor x = told(3);
        x.dropRule();
        x.rule(0, 0, 1, 2, 4, true);
        // RULE 0 and KEY 0 again, though of another WAY: not another set.
        quietTill(x, 11);
        sent(x, 1);
        notice(x, 0, 12, 0, 1, 0);
    }

    private static void theSetOfEachRuleAndKey() {
        c.says("with the set of its LOUD ones now, by the numbers of RULE and KEY");
        for (int rule = 0; rule < 6; rule++) {
            for (int key = 0; key < 12; key++) {
                HarbourlightMonitor x = watched(0, 0, 0, 0, 0, 0, 0, 0, 0, 0, 0, 0);
                for (int r = 0; r < 6; r++) {
                    if (r > 0) {
                        x.rule(0, 0, 1, 0, 5, true);
                    }
                    x.setRule(r, r == rule ? 5 : 999, 0, 0);
                }
                x.group(0, 50);
                x.tell((key + 1) % 12, 1000);
                sent(x, 0, 1);
                notice(x, 0, 2, 0, 6, 0);
                // One more, that of RULE and KEY alone; then it ends.
                x.tell(key, 6);
                sent(x, 0, 0, 1);
                notice(x, 0, 5, 0, 7, 0);
                x.tell(key, 0);
                sent(x, 0, 0, 1);
                notice(x, 0, 8, 0, 6, 0);
            }
        }
    }

    private static void repeatOfTen() {
        c.says("or if REPEAT (5 to 50; 10, at first) or more did");
        HarbourlightMonitor x = told(0);
        quietTill(x, 11);
        sent(x, 1);
        quietTill(x, 21);
        sent(x, 1);
        notice(x, 0, 22, 0, 1, 0);
        notice(x, 1, 12, 0, 1, 0);
        notice(x, 2, 2, 0, 1, 0);
        c.due("ever", x.many(6), 3);
    }

    private static void repeatAtItsEnds() {
        c.says("REPEAT (5 to 50; 10, at first)");
        int[] repeats = {5, 6, 9, 11, 49, 50};
        for (int repeat : repeats) {
            HarbourlightMonitor x = watched(0);
            x.group(0, repeat);
            x.tell(0, 6);
            sent(x, 0, 1);
            quietTill(x, 1 + repeat);
            sent(x, 1);
            quietTill(x, 1 + 2 * repeat);
            sent(x, 1);
            notice(x, 0, 2 + 2 * repeat, 0, 1, 0);
        }
    }

    private static void repeatMadeLess() {
        c.says("or if REPEAT (5 to 50; 10, at first) or more did");
        HarbourlightMonitor x = told(0);
        quietTill(x, 10);
        x.group(0, 5);
        // 9 TICKS went by, more than REPEAT.
        sent(x, 1, 0, 0, 0, 0, 1);
        notice(x, 0, 16, 0, 1, 0);
        notice(x, 1, 11, 0, 1, 0);
    }

    private static void repeatMadeMore() {
        c.says("`repeat`: REPEAT from now on");
        HarbourlightMonitor x = told(0);
        quietTill(x, 11);
        x.group(0, 12);
        sent(x, 0, 0, 1);
        notice(x, 0, 14, 0, 1, 0);
    }

    private static void repeatSinceTheLatest() {
        c.says("or if REPEAT (5 to 50; 10, at first) or more did");
        HarbourlightMonitor x = told(0, 1);
        quietTill(x, 10);
        x.tell(1, 6);
        sent(x, 1);
        notice(x, 0, 11, 0, 2, 0);
        // Since that one, not since the first one.
        quietTill(x, 20);
        sent(x, 1);
        notice(x, 0, 21, 0, 2, 0);
    }

    private static void repeatOfAnotherSet() {
        c.says("or if REPEAT (5 to 50; 10, at first) or more did");
        HarbourlightMonitor x = told(0, 1);
        quietTill(x, 11);
        x.tell(1, 6);
        sent(x, 1, 0, 0);
        notice(x, 0, 12, 0, 2, 0);
    }

    private static void noneAtOnce() {
        c.says("if there are none, but some were told: one goes out at once, that tells of none");
        for (int later = 1; later <= 10; later++) {
            HarbourlightMonitor x = told(0);
            x.tick(later);
            int ever = x.many(6);
            x.hush(-1, -1, 60);
            sent(x, 1);
            notice(x, 0, 3 + later, 0, 0, NONE);
            c.due("ever", x.many(6), ever + 1);
        }
        HarbourlightMonitor y = told(0);
        y.tell(0, 5);
        // It BURNS on for 2 TICKS, and is gone with the third one.
        sent(y, 0, 0, 1);
        notice(y, 0, 5, 0, 0, NONE);
    }

    private static void noneOnlyOnce() {
        c.says("if there are none, but some were told");
        HarbourlightMonitor x = told(0);
        x.hush(-1, -1, 60);
        sent(x, 1);
        quietTill(x, 61);
        notice(x, 0, 3, 0, 0, NONE);
        sent(x, 0, 1);
        HarbourlightMonitor y = watched(0);
        y.tell(0, 6);
        sent(y, 0);
        y.hush(-1, -1, 60);
        // LOUD once, but never told of.
        quietTill(y, 30);
        c.due("ever", y.many(6), 0);
    }

    private static void noneOfADroppedRule() {
        c.says("one goes out at once, that tells of none (also of a RULE that was dropped)");
        HarbourlightMonitor x = told(0);
        x.dropRule();
        sent(x, 1, 0, 0);
        notice(x, 0, 3, 0, 0, NONE);
        HarbourlightMonitor y = watched(0);
        y.rule(0, 0, 1, 0, 5, true);
        y.tell(0, 6);
        sent(y, 0, 1);
        y.dropRule();
        // One is LOUD on: just another set.
        sent(y, 0, 0, 1);
        notice(y, 0, 5, 0, 1, 0);
        notice(y, 1, 2, 0, 2, 0);
    }

    private static void noneOfADroppedRuleByRules() {
        c.says("(also of a RULE that was dropped)");
        HarbourlightMonitor x = watched(0);
        for (int rule = 1; rule < 6; rule++) {
            x.rule(0, 0, 1, 0, 5, true);
        }
        x.group(1, 50);
        x.tell(0, 6);
        sent(x, 0, 6);
        x.dropRule();
        sent(x, 1, 0);
        notice(x, 0, 3, 5, 0, NONE);
        x.dropRule();
        x.dropRule();
        sent(x, 2, 0);
        notice(x, 0, 5, 4, 0, NONE);
        notice(x, 1, 5, 3, 0, NONE);
        x.dropRule();
        x.dropRule();
        x.dropRule();
        sent(x, 3, 0);
        notice(x, 0, 7, 2, 0, NONE);
        notice(x, 2, 7, 0, 0, NONE);
    }

    private static void noneOfADroppedRuleByPlaces() {
        c.says("(also of a RULE that was dropped)");
        HarbourlightMonitor x = watched(0, 5);
        x.rule(0, 0, 1, 2, 5, true);
        x.group(2, 50);
        tellAll(x, 6);
        sent(x, 0, 3);
        x.dropRule();
        sent(x, 1, 0);
        notice(x, 0, 3, 6, 0, NONE);
        x.dropRule();
        sent(x, 2, 0);
        notice(x, 0, 5, 5, 0, NONE);
        notice(x, 1, 5, 0, 0, NONE);
    }

    private static void droppedAheadOfTheFirst() {
        c.says("if there are none, but some were told");
        HarbourlightMonitor x = watched(0);
        x.rule(0, 0, 1, 0, 5, true);
        x.group(1, 10);
        x.tell(0, 6);
        sent(x, 0);
        x.dropRule();
        // Nothing was told of RULE 1: nothing tells of none.
        sent(x, 1, 0, 0);
        notice(x, 0, 2, 0, 1, 0);
        c.due("ever", x.many(6), 1);
    }

    private static void quietAndHushedAreNotToldOf() {
        c.says("LOUD are those that BURN, and are neither HUSHED nor QUIET.");
        HarbourlightMonitor x = watched(0, 1, 2);
        x.rule(0, 0, 1, 1, 5, true);
        x.setRule(1, 5, 1, 1);
        tellAll(x, 6);
        x.tell(2, 0);
        x.hush(1, 1, 60);
        sent(x, 0);
        c.due("LOUD, as RULE 1 is PENDING", x.many(5), 2);
        // KEY 0 is QUIET by RULE 1; RULE 1 is HUSHED at 1.
        sent(x, 1);
        c.due("LOUD", x.many(5), 2);
        c.due("BURN", x.many(4), 4);
        notice(x, 0, 2, 0, 2, 1);
    }

    private static void quietByOneThatComesWithTheTick() {
        c.says("RULES are looked at, by numbers, each KEY by numbers; then NOTICES go out.");
        HarbourlightMonitor x = watched(3);
        x.rule(0, 0, 1, 2, 5, true);
        x.setRule(1, 5, 0, 1);
        x.group(1, 10);
        x.tell(0, 6);
        // RULE 1 comes to BURN with the same TICK, behind RULE 0, and keeps it quiet all the same.
        sent(x, 0, 1, 0);
        notice(x, 0, 2, 1, 1, 1);
        c.due("ever", x.many(6), 1);
    }

    /** GROUP 0 was told of at 2, and then came more than 30 of others. */
    private static HarbourlightMonitor manySince() {
        HarbourlightMonitor x = watched(0, 1, 2, 3, 4, 5);
        x.group(2, 50);
        tellAll(x, 6);
        sent(x, 0, 6);
        for (int round = 0; round < 3; round++) {
            for (int place = 1; place <= 5; place++) {
                x.hush(-1, place, 2);
            }
            sent(x, 5, 0, 5);
            for (int h = 0; h < 5; h++) {
                x.unhush(0);
            }
        }
        for (int back = 0; back < 30; back++) {
            c.due("notice(" + back + ", 1) is of another GROUP", x.notice(back, 1) == 0 ? 1 : 0, 0);
        }
        return x;
    }

    private static void latestThatIsNotKept() {
        c.says("The latest NOTICE of a GROUP counts also if it is not kept any more.");
        HarbourlightMonitor x = manySince();
        c.due("CLOCK", x.clock(), 11);
        quietTill(x, 51);
        sent(x, 1);
        notice(x, 0, 52, 0, 1, 0);
        HarbourlightMonitor y = manySince();
        y.hush(-1, 0, 60);
        sent(y, 1, 0);
        notice(y, 0, 12, 0, 0, NONE);
    }

    private static void latestOfNoneThatIsNotKept() {
        c.says("The latest NOTICE of a GROUP counts also if it is not kept any more.");
        HarbourlightMonitor x = watched(0, 1, 2, 3, 4, 5);
        x.series(1, 1, 0);
        x.rule(1, 0, 1, 2, 5, true);
        x.group(2, 50);
        tellAll(x, 6);
        sent(x, 0, 7);
        x.tell(6, 0);
        sent(x, 0, 0, 1);
        notice(x, 0, 5, 6, 0, NONE);
        for (int round = 0; round < 3; round++) {
            for (int place = 1; place <= 5; place++) {
                x.hush(-1, place, 2);
            }
            sent(x, 5, 0, 5);
            for (int h = 0; h < 5; h++) {
                x.unhush(0);
            }
        }
        c.due("none of GROUP 6 is kept", x.notice(29, 0), 6);
        quietTill(x, 15);
        x.tell(6, 6);
        sent(x, 0, 1);
        notice(x, 0, 17, 6, 1, 0);
    }

    private static void groupingAnew() {
        c.says("As the GROUPING becomes another one, it is as if there had been no NOTICES, nor LOUD ones with the TICK ahead "
                + "(those that are kept stay).");
        int[][] ways = {{0, 1}, {0, 2}, {1, 0}, {1, 2}, {2, 0}, {2, 1}};
        for (int[] way : ways) {
            HarbourlightMonitor x = watched(0);
            x.group(way[0], 10);
            x.tell(0, 6);
            sent(x, 0, 1);
            c.due("the GROUPING before", x.group(way[1], 10), way[0]);
            sent(x, 0, 1, 0);
            notice(x, 0, 4, 0, 1, 0);
            notice(x, 1, 2, 0, 1, 0);
            c.due("ever", x.many(6), 2);
        }
        HarbourlightMonitor y = watched(0);
        y.tell(0, 6);
        sent(y, 0);
        y.group(1, 10);
        // It had LOUD ones with the TICK ahead by the other GROUPING.
        sent(y, 0, 1);
    }

    private static void groupingAnewWithTold() {
        c.says("it is as if there had been no NOTICES");
        HarbourlightMonitor x = told(0);
        x.group(2, 10);
        x.hush(-1, -1, 60);
        // Nothing was told: nothing tells of none.
        quietTill(x, 20);
        c.due("ever", x.many(6), 1);
        HarbourlightMonitor y = told(0);
        y.group(2, 10);
        y.group(0, 10);
        // Back again, and anew all the same.
        sent(y, 0, 1, 0);
        notice(y, 0, 4, 0, 1, 0);
        HarbourlightMonitor z = told(0, 1);
        z.group(1, 10);
        z.tell(1, 6);
        sent(z, 0, 1, 0, 0, 0);
        notice(z, 0, 4, 0, 2, 0);
    }

    /** Six RULES of six PLACES, and RULE 5 of all together: as many LOUD ones as GROUPS by each GROUPING. */
    private static HarbourlightMonitor loudInEachGroup(int grouping) {
        HarbourlightMonitor x = watched(0, 1, 2, 3, 4, 5);
        for (int rule = 1; rule < 6; rule++) {
            x.rule(0, 0, 1, rule == 5 ? 2 : 0, 5, true);
        }
        x.group(grouping, 50);
        tellAll(x, 6);
        return x;
    }

    private static void groupingAnewOfEachGroup() {
        c.says("it is as if there had been no NOTICES, nor LOUD ones with the TICK ahead");
        int[] groups = {1, 6, 7};
        for (int grouping = 0; grouping <= 2; grouping++) {
            HarbourlightMonitor x = loudInEachGroup(grouping);
            sent(x, 0, groups[grouping]);
            x.group((grouping + 1) % 3, 50);
            x.group(grouping, 50);
            sent(x, 0, groups[grouping]);
            x.group((grouping + 1) % 3, 50);
            x.group(grouping, 50);
            x.hush(-1, -1, 60);
            // None was told of: none tells of none.
            sent(x, 0, 0);
            HarbourlightMonitor y = loudInEachGroup(grouping);
            sent(y, 0);
            y.group((grouping + 1) % 3, 50);
            y.group(grouping, 50);
            // None was LOUD with the TICK ahead.
            sent(y, 0, groups[grouping]);
        }
        HarbourlightMonitor z = watched(0);
        for (int rule = 1; rule < 6; rule++) {
            z.rule(0, 0, 1, 0, 5, true);
        }
        for (int rule = 0; rule < 5; rule++) {
            z.hush(rule, -1, 60);
        }
        z.tell(0, 6);
        sent(z, 0, 1);
        z.group(1, 10);
        z.group(0, 10);
        z.setRule(5, 10000, 0, 0);
        // What was told of RULE 5 counts no more: it is told of anew while it BURNS on.
        sent(z, 0, 1, 1);
        notice(z, 1, 4, 0, 1, 0);
        notice(z, 0, 5, 0, 0, NONE);
    }

    private static void groupingTheSame() {
        c.says("`grouping`: the GROUPING from now on (the same one: only REPEAT is set)");
        for (int grouping = 0; grouping <= 2; grouping++) {
            HarbourlightMonitor x = watched(0);
            x.group(grouping, 10);
            x.tell(0, 6);
            sent(x, 0);
            c.due("the same one", x.group(grouping, 10), grouping);
            // It had LOUD ones with the TICK ahead.
            sent(x, 1);
            c.due("the same one", x.group(grouping, 5), grouping);
            quietTill(x, 6);
            sent(x, 1);
            c.due("the same one", x.group(grouping, 50), grouping);
            x.hush(-1, -1, 60);
            sent(x, 1, 0);
            notice(x, 0, 8, 0, 0, NONE);
        }
    }

    private static void thirtyKept() {
        c.says("The last 30 NOTICES are kept.");
        HarbourlightMonitor x = watched(0);
        x.group(0, 5);
        x.tell(0, 6);
        x.tick(2);
        for (int n = 1; n <= 32; n++) {
            int all = n;
            c.due("ever", x.many(6), n);
            int kept = Math.min(n, 30);
            c.due("the latest of " + n, x.notice(0, 0), 2 + 5 * (n - 1));
            c.due("the oldest of " + n, x.notice(kept - 1, 0), 2 + 5 * (n - kept));
            c.thrown("one behind it, of " + n, IndexOutOfBoundsException.class, () -> x.notice(Math.min(all, 30), 0));
            x.tick(5);
        }
        c.thrown("far behind", IndexOutOfBoundsException.class, () -> x.notice(31, 0));
    }

    private static void groupsByNumbers() {
        c.says("With each TICK, for each GROUP, by numbers");
        HarbourlightMonitor x = watched(4);
        x.rule(0, 0, 1, 2, 5, true);
        x.rule(0, 0, 1, 1, 5, true);
        x.rule(0, 0, 1, 0, 5, true);
        x.group(1, 10);
        x.tell(0, 6);
        sent(x, 0, 4);
        for (int back = 0; back < 4; back++) {
            notice(x, back, 2, 3 - back, 1, 0);
        }
        HarbourlightMonitor y = watched(5, 4, 3, 2, 1, 0);
        y.rule(0, 0, 1, 2, 5, true);
        y.group(2, 10);
        tellAll(y, 6);
        sent(y, 0, 7);
        for (int back = 0; back < 7; back++) {
            notice(y, back, 2, 6 - back, 1, 0);
        }
    }

    private static void groupsOfPlaces() {
        c.says("by the GROUPING (0 at first): 0 all are in one (0), 1 by RULES, 2 by PLACES (NONE as 6)");
        int[][] due = {{0, 6}, {0, 3, 1, 2, 2, 1}, {3, 3, 5, 2, 6, 1}};
        for (int grouping = 0; grouping <= 2; grouping++) {
            HarbourlightMonitor x = watched(3, 5, 3);
            x.rule(0, 0, 1, 1, 5, true);
            x.rule(0, 0, 1, 2, 5, true);
            x.group(grouping, 10);
            tellAll(x, 6);
            int groups = due[grouping].length / 2;
            sent(x, 0, groups);
            for (int i = 0; i < groups; i++) {
                int told = due[grouping][2 * i + 1];
                int of = grouping == 2 ? new int[] {3, 2, 1}[i] : told;
                notice(x, groups - 1 - i, 2, due[grouping][2 * i], of, 0);
            }
        }
        HarbourlightMonitor y = watched(0);
        c.due("the GROUPING at first", y.group(0, 10), 0);
    }

    private static void groupsAreApart() {
        c.says("With each TICK, for each GROUP, by numbers: with the set of its LOUD ones now");
        HarbourlightMonitor x = watched(0, 1);
        x.group(2, 10);
        x.tell(0, 6);
        sent(x, 0, 1);
        x.tell(1, 6);
        // GROUP 1 is new, GROUP 0 has the same set.
        sent(x, 0, 1);
        notice(x, 0, 4, 1, 1, 0);
        x.hush(-1, 0, 60);
        sent(x, 1);
        notice(x, 0, 5, 0, 0, NONE);
        quietTill(x, 13);
        sent(x, 1);
        notice(x, 0, 14, 1, 1, 0);
    }

    private static void ranksAsItWentOut() {
        c.says("3 the greatest RANK of them, as it went out (NONE without any)");
        HarbourlightMonitor x = watched(0);
        x.series(1, 1, 1);
        x.rule(1, 0, 1, 0, 5, true);
        x.setRule(0, 5, 0, 3);
        x.setRule(1, 5, 0, 1);
        tellAll(x, 6);
        sent(x, 0, 1);
        notice(x, 0, 2, 0, 2, 3);
        x.setRule(0, 5, 0, 0);
        notice(x, 0, 2, 0, 2, 3);
        quietTill(x, 11);
        sent(x, 1);
        notice(x, 0, 12, 0, 2, 1);
        x.setRule(1, 5, 0, 0);
        x.tick(10);
        notice(x, 0, 22, 0, 2, 0);
        x.setRule(0, 5, 0, 3);
        x.hush(0, -1, 60);
        // The greatest RANK of those that it tells of, not of all.
        sent(x, 0, 0, 1);
        notice(x, 0, 25, 0, 1, 0);
        x.hush(1, -1, 60);
        sent(x, 1);
        notice(x, 0, 26, 0, 0, NONE);
    }

    private static void lastRuleAndKey() {
        c.says("3 the greatest RANK of them, as it went out");
        HarbourlightMonitor x = watched(0, 0, 0, 0, 0, 0, 0, 0, 0, 0, 0, 4);
        for (int rule = 1; rule < 6; rule++) {
            x.rule(0, 0, 1, 0, 5, true);
        }
        for (int rule = 0; rule < 5; rule++) {
            x.hush(rule, -1, 60);
        }
        x.setRule(5, 5, 0, 2);
        x.tell(11, 6);
        sent(x, 0, 1);
        notice(x, 0, 2, 0, 1, 2);
        tellAll(x, 6);
        sent(x, 0, 0, 1);
        notice(x, 0, 5, 0, 12, 2);
    }

    private static void latestFirst() {
        c.says("`back`: how many NOTICES back, 0 for the latest one");
        HarbourlightMonitor x = told(0);
        c.thrown("1 back of one", IndexOutOfBoundsException.class, () -> x.notice(1, 0));
        x.hush(-1, -1, 60);
        sent(x, 1);
        notice(x, 0, 3, 0, 0, NONE);
        notice(x, 1, 2, 0, 1, 0);
        c.thrown("2 back of two", IndexOutOfBoundsException.class, () -> x.notice(2, 0));
    }

    private static void theClockAtFirst() {
        c.says("The CLOCK is 0 at first.");
        HarbourlightMonitor x = watched(0);
        c.due("at first", x.clock(), 0);
        x.hush(-1, -1, 1);
        c.due("till 1", x.ofHush(0, 2), 1);
        x.burningIn(10);
        c.due("without TICKS", x.clock(), 0);
        x.tick(1);
        c.due("behind one", x.clock(), 1);
        x.tick(10);
        c.due("behind 11", x.clock(), 11);
    }

    private static void aTickInOrder() {
        c.says("4 A TICK: the CLOCK is 1 more; all SERIES have SAMPLES; RULES are looked at, by numbers, each KEY by numbers; "
                + "then NOTICES go out.");
        HarbourlightMonitor x = watched(0);
        x.tell(0, 6);
        x.tick(1);
        c.due("the SAMPLE is of that TICK", x.sample(0, 0), 6);
        c.due("the RULE has looked at it", x.alert(0, 0, 0), 2);
        c.due("since the CLOCK of that TICK", x.alert(0, 0, 1), 1);
        x.hush(0, 0, 1);
        // The CLOCK is 2 ahead of all else: the HUSH is over as NOTICES go out.
        sent(x, 1);
        notice(x, 0, 2, 0, 1, 0);
        HarbourlightMonitor y = told(0);
        y.hush(0, 0, 1);
        sent(y, 0, 0);
        c.due("it was over with the TICK: nothing was told of none", y.many(6), 1);
        y.hush(0, 0, 2);
        sent(y, 1);
    }

    private static void ticksOfOneCall() {
        c.says("Returns how many NOTICES went out.");
        HarbourlightMonitor x = watched(0, 1);
        x.group(2, 5);
        tellAll(x, 6);
        c.due("of 1 TICK", x.tick(1), 0);
        c.due("of 10: at 2 and 7", x.tick(10), 4);
        c.due("of 1: at 12", x.tick(1), 2);
        c.due("CLOCK", x.clock(), 12);
        c.due("ever", x.many(6), 6);
        HarbourlightMonitor y = watched(0, 1);
        y.group(2, 5);
        tellAll(y, 6);
        int sum = 0;
        for (int t = 0; t < 12; t++) {
            sum += y.tick(1);
        }
        c.due("one by one", sum, 6);
        c.due("all is the same", x.digest(), y.digest());
    }
}

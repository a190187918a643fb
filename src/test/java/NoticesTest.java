/** Promises 10, 11 and 22, and Terms 3: notices. */
public final class NoticesTest {
    private static final Checks c = new Checks();

    public static void main(String[] args) {
        promise22FirstAndRepeated();
        promise22None();
        promise22NotAtOnce();
        promise22Changed();
        promise22ChangedBack();
        promise22Ranks();
        promise22LastNumbers();
        promise22Refuses();
        promise22Kept();
        promise22LatestCountsUnkept();
        promise10ByRules();
        promise10ByPlaces();
        promise10Anew();
        promise10Repeat();
        promise7DroppedRule();
        promise7SameNumbersAnew();
        promise7HadLoudOnes();
        promise8HushEndsBetween();
        c.end();
    }

    /** GAUGES of METRIC 0, one at each of the places; RULE 0 of each of them, ABOVE 5. */
    private static HarbourlightMonitor watching(int... places) {
        HarbourlightMonitor x = new HarbourlightMonitor();
        for (int place : places) {
            x.series(1, 0, place);
        }
        x.rule(0, 0, 1, 0, 5, true);
        return x;
    }

    private static void notice(HarbourlightMonitor x, int back, int... due) {
        for (int what = 0; what < due.length; what++) {
            c.due("22 notice(" + back + ", " + what + ") at " + x.clock(), x.notice(back, what), due[what]);
        }
    }

    private static void ticks(HarbourlightMonitor x, int... sent) {
        for (int due : sent) {
            long got = x.tick(1);
            c.due("22 NOTICES sent at " + x.clock(), got, due);
        }
    }

    private static void promise22FirstAndRepeated() {
        HarbourlightMonitor x = watching(3);
        x.tell(0, 6);
        ticks(x, 0, 1);
        notice(x, 0, 2, 0, 1, 0);
        ticks(x, 0, 0, 0, 0, 0, 0, 0, 0, 0, 1, 0);
        notice(x, 0, 12, 0, 1, 0);
        notice(x, 1, 2, 0, 1, 0);
        c.due("22 ever", x.many(6), 2);
    }

    private static void promise22None() {
        HarbourlightMonitor x = watching(3);
        x.setRule(0, 5, 0, 2);
        x.tell(0, 6);
        ticks(x, 0, 1);
        x.tell(0, 5);
        ticks(x, 0, 0, 1, 0, 0, 0);
        notice(x, 0, 5, 0, 0, -1);
        notice(x, 1, 2, 0, 1, 2);
        x.tell(0, 6);
        ticks(x, 0, 1);
        notice(x, 0, 10, 0, 1, 2);
    }

    private static void promise22NotAtOnce() {
        HarbourlightMonitor x = watching(3);
        x.tell(0, 6);
        ticks(x, 0);
        x.hush(-1, -1, 1);
        x.hush(-1, -1, 2);
        // HUSHED with the TICK to 2 alone: it was not LOUD with the TICK ahead of 3.
        ticks(x, 0, 0, 1);
        notice(x, 0, 4, 0, 1, 0);
        c.due("22 ever", x.many(6), 1);
    }

    private static void promise22Changed() {
        HarbourlightMonitor x = watching(3, 4);
        x.tell(0, 6);
        ticks(x, 0, 1);
        x.tell(1, 6);
        ticks(x, 0, 0, 1);
        notice(x, 0, 5, 0, 2, 0);
        ticks(x, 0, 0, 0, 0, 0);
        x.hush(-1, 3, 50);
        ticks(x, 1);
        notice(x, 0, 11, 0, 1, 0);
        x.hush(-1, 4, 50);
        x.unhush(0);
        // Another one, of the same number of ALERTS.
        ticks(x, 0, 0, 1);
        notice(x, 0, 14, 0, 1, 0);
    }

    private static void promise22ChangedBack() {
        HarbourlightMonitor x = watching(3, 4);
        x.tell(0, 6);
        ticks(x, 0, 1);
        x.tell(1, 6);
        ticks(x, 0);
        x.hush(-1, 4, 50);
        // The set is again the one told of: REPEAT alone counts.
        ticks(x, 0, 0, 0, 0, 0, 0, 0, 0, 1);
        notice(x, 0, 12, 0, 1, 0);
    }

    private static void promise22Ranks() {
        HarbourlightMonitor x = watching(0, 1, 2);
        x.series(1, 1, 3);
        x.rule(1, 0, 1, 0, 5, true);
        x.setRule(0, 5, 0, 3);
        x.setRule(1, 5, 0, 1);
        for (int s = 0; s < 4; s++) {
            x.tell(s, 6);
        }
        ticks(x, 0, 1);
        notice(x, 0, 2, 0, 4, 3);
        x.setRule(0, 5, 0, 0);
        notice(x, 0, 2, 0, 4, 3);
        x.tick(10);
        notice(x, 0, 12, 0, 4, 1);
        notice(x, 1, 2, 0, 4, 3);
        x.setRule(1, 5, 0, 0);
        x.tick(10);
        notice(x, 0, 22, 0, 4, 0);
    }

    private static void promise22LastNumbers() {
        HarbourlightMonitor x = watching(0, 0, 0, 0, 0, 0, 0, 0, 0, 0, 0, 5);
        for (int rule = 1; rule < 6; rule++) {
            x.rule(0, 0, 1, 0, 5, true);
        }
        x.setRule(5, 5, 0, 2);
        x.tell(11, 6);
        x.tick(1);
        x.hush(0, -1, 9);
        ticks(x, 1);
        notice(x, 0, 2, 0, 1, 2);
        c.due("22 RULE 5, KEY 11", x.alert(5, 11, 2), 0);
        c.due("22 RULE 0, KEY 11", x.alert(0, 11, 2), 2);
        c.due("22 RULE 1, KEY 11", x.alert(1, 11, 2), 3);
    }

    private static void promise22Refuses() {
        HarbourlightMonitor x = watching(0);
        c.badIndex("22 none", x, () -> x.notice(0, 0));
        c.badIndex("22 none, what 4", x, () -> x.notice(0, 4));
        x.tell(0, 6);
        x.tick(2);
        c.badIndex("22 back 1", x, () -> x.notice(1, 0));
        c.badIndex("22 back -1", x, () -> x.notice(-1, 0));
        c.badIndex("22 back first", x, () -> x.notice(-1, 4));
        c.badIndex("22 back far", x, () -> x.notice(Integer.MIN_VALUE, 0));
        c.badArgument("22 what -1", x, () -> x.notice(0, -1));
        c.badArgument("22 what 4", x, () -> x.notice(0, 4));
    }

    private static void promise22Kept() {
        HarbourlightMonitor x = watching(0);
        x.tell(0, 6);
        x.group(0, 5);
        for (int t = 0; t < 15; t++) {
            x.tick(10);
        }
        // NOTICES at 2, 7, 12 .. 147
        c.due("22 ever", x.many(6), 30);
        for (int back = 0; back < 30; back++) {
            notice(x, back, 147 - 5 * back, 0, 1, 0);
        }
        c.badIndex("22 back 30 of 30", x, () -> x.notice(30, 0));
        x.tick(2);
        c.due("22 ever", x.many(6), 31);
        for (int back = 0; back < 30; back++) {
            notice(x, back, 152 - 5 * back, 0, 1, 0);
        }
        c.badIndex("22 back 30 of 31", x, () -> x.notice(30, 0));
        c.badIndex("22 back far", x, () -> x.notice(Integer.MAX_VALUE, 0));
    }

    private static void promise22LatestCountsUnkept() {
        HarbourlightMonitor x = watching(0, 1, 2, 3, 4);
        x.group(2, 50);
        for (int s = 0; s < 5; s++) {
            x.tell(s, 6);
        }
        x.tick(2);
        c.due("22 all were told of", x.many(6), 5);
        for (int round = 0; round < 4; round++) {
            for (int place = 1; place <= 4; place++) {
                x.hush(-1, place, 1 + 1);
            }
            ticks(x, 4, 0, 4);
            for (int h = 3; h >= 0; h--) {
                x.unhush(h);
            }
        }
        c.due("22 ever", x.many(6), 37);
        for (int back = 0; back < 30; back++) {
            c.due("22 none of GROUP 0 is kept", x.notice(back, 1) == 0 ? 1 : 0, 0);
        }
        x.hush(-1, 0, 9);
        ticks(x, 1, 0);
        notice(x, 0, 15, 0, 0, -1);
    }

    private static void promise10ByRules() {
        HarbourlightMonitor x = watching(0, 1);
        x.rule(0, 0, 1, 2, 5, true);
        x.rule(0, 0, 1, 1, 5, true);
        c.due("10", x.group(1, 10), 0);
        x.tell(0, 6);
        x.tell(1, 6);
        x.tick(1);
        ticks(x, 3);
        notice(x, 2, 2, 0, 2, 0);
        notice(x, 1, 2, 1, 1, 0);
        notice(x, 0, 2, 2, 2, 0);
    }

    private static void promise10ByPlaces() {
        HarbourlightMonitor x = watching(5, 2, 5);
        x.rule(0, 0, 1, 2, 5, true);
        x.rule(0, 0, 1, 1, 5, true);
        x.group(2, 10);
        x.tell(0, 6);
        x.tell(1, 6);
        x.tell(2, 6);
        x.tick(1);
        ticks(x, 3);
        notice(x, 2, 2, 2, 2, 0);
        notice(x, 1, 2, 5, 3, 0);
        notice(x, 0, 2, 6, 1, 0);
    }

    private static void promise10Anew() {
        HarbourlightMonitor x = watching(0);
        x.tell(0, 6);
        x.tick(2);
        x.group(1, 10);
        ticks(x, 0, 1);
        notice(x, 0, 4, 0, 1, 0);
        notice(x, 1, 2, 0, 1, 0);
        c.due("10 NOTICES stay", x.many(6), 2);
        x.hush(-1, -1, 2);
        x.group(0, 10);
        // As if there had been no NOTICES: none tells of none.
        ticks(x, 0, 0, 1);
        notice(x, 0, 7, 0, 1, 0);
        x.group(1, 10);
        x.group(0, 10);
        ticks(x, 0, 1);
    }

    private static void promise10Repeat() {
        HarbourlightMonitor x = watching(0);
        x.tell(0, 6);
        x.tick(2);
        c.due("10 the same one", x.group(0, 5), 0);
        ticks(x, 0, 0, 0, 0, 1, 0, 0, 0, 0, 1);
        x.group(0, 50);
        for (int t = 0; t < 49; t++) {
            ticks(x, 0);
        }
        ticks(x, 1);
        for (int t = 0; t < 6; t++) {
            ticks(x, 0);
        }
        x.group(0, 5);
        ticks(x, 1);
    }

    private static void promise7DroppedRule() {
        HarbourlightMonitor x = watching(0);
        x.rule(0, 0, 1, 0, 5, true);
        x.setRule(1, 5, 0, 2);
        x.setRule(0, 5, 0, 2);
        x.group(1, 10);
        x.tell(0, 6);
        x.tick(2);
        c.due("7", x.many(6), 2);
        x.dropRule();
        ticks(x, 1, 0);
        notice(x, 0, 3, 1, 0, -1);
        x.dropRule();
        ticks(x, 1, 0);
        notice(x, 0, 5, 0, 0, -1);
    }

    private static void promise7SameNumbersAnew() {
        HarbourlightMonitor x = watching(0);
        x.tell(0, 6);
        x.tick(2);
        x.dropRule();
        x.rule(0, 0, 1, 0, 4, true);
        // The set is the same, by the numbers of RULE and KEY.
        ticks(x, 0, 0, 0, 0, 0, 0, 0, 0, 0, 1);
        x.dropRule();
        x.rule(0, 0, 1, 2, 4, true);
        ticks(x, 0, 0, 0, 0, 0, 0, 0, 0, 0, 1);
    }

    private static void promise7HadLoudOnes() {
        HarbourlightMonitor x = watching(0);
        x.rule(0, 0, 1, 1, 5, true);
        x.tell(0, 6);
        ticks(x, 0);
        x.dropRule();
        ticks(x, 1);
        notice(x, 0, 2, 0, 1, 0);
    }

    private static void promise8HushEndsBetween() {
        HarbourlightMonitor x = watching(0);
        x.tell(0, 6);
        x.hush(0, 0, 3);
        // Over with the TICK to 3: LOUD with it at first, told of with the next one.
        ticks(x, 0, 0, 0, 1);
        x.hush(0, 0, 1);
        x.unhush(0);
        ticks(x, 0);
        x.hush(0, 0, 2);
        ticks(x, 1, 0, 1);
        notice(x, 1, 6, 0, 0, -1);
        notice(x, 0, 8, 0, 1, 0);
    }
}

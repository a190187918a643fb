/** Promises 18 to 21, and Terms 2: rules and alerts. */
public final class AlertsTest {
    private static final Checks c = new Checks();

    public static void main(String[] args) {
        promise18Stands();
        promise18OverTime();
        promise19WaitAndBurn();
        promise19Gone();
        promise19Below();
        promise19Quiet();
        promise19QuietAndHushed();
        promise19OutsideOfKeys();
        promise20AlertAt();
        promise20Refuses();
        promise21OfHush();
        c.end();
    }

    private static void gauges(HarbourlightMonitor x, int metric, int... places) {
        for (int place : places) {
            x.series(1, metric, place);
        }
    }

    private static void promise18Stands() {
        HarbourlightMonitor x = new HarbourlightMonitor();
        gauges(x, 2, 4, 1);
        gauges(x, 3, 1);
        gauges(x, 2, 4);
        int[] told = {10, 200, 3000 / 3, -50};
        for (int s = 0; s < 4; s++) {
            x.tell(s, told[s]);
        }
        for (int way = 0; way <= 2; way++) {
            x.rule(2, 0, 1, way, 0, true);
        }
        x.rule(5, 0, 1, 2, 0, true);
        c.due("18 without SAMPLES", x.stands(0, 0), 0);
        x.tick(1);
        int[][] due = {{10, 200, 0, -50, 0, 0}, {0, 200, 0, 0, -40, 0}, {160, 0, 0, 0, 0, 0}, {0, 0, 0, 0, 0, 0}};
        for (int rule = 0; rule < 4; rule++) {
            for (int key = 0; key < 6; key++) {
                c.due("18 stands(" + rule + ", " + key + ")", x.stands(rule, key), due[rule][key]);
            }
            c.due("18 no such KEY", x.stands(rule, -1), 0);
            c.due("18 no such KEY", x.stands(rule, 12), 0);
            c.due("18 no such KEY", x.stands(rule, Integer.MAX_VALUE), 0);
            c.due("18 no such KEY", x.stands(rule, Integer.MIN_VALUE), 0);
        }
        x.tell(0, 999);
        c.due("18 as of the latest SAMPLES", x.stands(0, 0), 10);
        c.badIndex("18 RULE 4", x, () -> x.stands(4, 0));
        c.badIndex("18 RULE -1", x, () -> x.stands(-1, 0));
    }

    private static void promise18OverTime() {
        HarbourlightMonitor x = new HarbourlightMonitor();
        x.series(2, 0, 0);
        x.series(2, 0, 0);
        x.series(0, 0, 0);
        x.rule(0, 1, 2, 1, 0, true);
        x.rule(0, 6, 2, 1, 0, true);
        x.rule(0, 3, 12, 2, 0, true);
        x.tick(1);
        x.tell(0, 5);
        x.tell(1, 60);
        x.tell(1, 60);
        x.tell(2, 8);
        x.tick(2);
        c.due("18 GROWTHS summed up", x.stands(0, 0), 11);
        c.due("18 PARTS summed up", x.stands(1, 0), 10 + 100);
        c.due("18 MOSTS summed up", x.stands(2, 0), 11);
        x.tick(1);
        c.due("18 GROWTH over 2", x.stands(0, 0), 0);
        c.due("18 PART over 2", x.stands(1, 0), 0);
    }

    private static void state(HarbourlightMonitor x, String when, int state, int since) {
        c.due("19 state " + when, x.alert(0, 0, 0), state);
        c.due("19 since " + when, x.alert(0, 0, 1), since);
    }

    private static void promise19WaitAndBurn() {
        HarbourlightMonitor x = new HarbourlightMonitor();
        gauges(x, 0, 0);
        x.rule(0, 0, 1, 0, 5, true);
        x.setRule(0, 5, 2, 0);
        x.tell(0, 6);
        state(x, "ahead of TICKS", 0, -1);
        c.due("19 does not BURN", x.alert(0, 0, 2), 1);
        x.tick(1);
        state(x, "as it comes", 1, 1);
        c.due("19 PENDING does not BURN", x.alert(0, 0, 2), 1);
        x.tick(1);
        state(x, "1 TICK later", 1, 1);
        x.tick(1);
        state(x, "2 TICKS later", 2, 3);
        c.due("19 LOUD", x.alert(0, 0, 2), 0);
        x.tick(1);
        state(x, "3 TICKS later", 2, 3);

        HarbourlightMonitor y = new HarbourlightMonitor();
        gauges(y, 0, 0);
        y.rule(0, 0, 1, 0, 5, true);
        y.setRule(0, 5, 2, 0);
        y.tell(0, 6);
        y.tick(2);
        y.tell(0, 5);
        y.tick(1);
        state(y, "as one that is PENDING goes", 0, -1);
        y.tell(0, 6);
        y.tick(1);
        state(y, "as it comes anew", 1, 4);
        y.setRule(0, 5, 0, 0);
        y.tick(1);
        state(y, "with a WAIT that is over", 2, 5);
    }

    private static void promise19Gone() {
        HarbourlightMonitor x = new HarbourlightMonitor();
        gauges(x, 0, 0);
        x.rule(0, 0, 1, 0, 5, true);
        x.tell(0, 6);
        x.tick(1);
        state(x, "with WAIT 0", 2, 1);
        x.tell(0, 5);
        x.tick(2);
        state(x, "2 TICKS not beyond", 2, 1);
        x.tell(0, 6);
        x.tick(1);
        x.tell(0, 5);
        x.tick(2);
        state(x, "counted anew", 2, 1);
        x.tick(1);
        state(x, "3 TICKS not beyond", 0, -1);
        x.tell(0, 6);
        x.tick(1);
        state(x, "anew", 2, 8);
        x.tell(0, 0);
        x.tick(2);
        state(x, "anew, 2 TICKS not beyond", 2, 8);
        x.tick(1);
        state(x, "anew, 3 TICKS not beyond", 0, -1);
    }

    private static void promise19Below() {
        HarbourlightMonitor x = new HarbourlightMonitor();
        gauges(x, 0, 0);
        x.rule(0, 0, 1, 0, -5, false);
        x.tell(0, -5);
        x.tick(1);
        state(x, "just the LIMIT", 0, -1);
        x.tell(0, -6);
        x.tick(1);
        state(x, "below the LIMIT", 2, 2);
        x.tell(0, 900);
        x.tick(3);
        state(x, "above the LIMIT", 0, -1);
    }

    /** RULES 0 of each SERIES, 1 of PLACES, 2 of all; places 0, 0, 1; all BURN. */
    private static HarbourlightMonitor burning(int rank0, int rank1, int rank2) {
        HarbourlightMonitor x = new HarbourlightMonitor();
        gauges(x, 0, 0, 0, 1);
        int[] ranks = {rank0, rank1, rank2};
        for (int way = 0; way <= 2; way++) {
            x.rule(0, 0, 1, way, 5, true);
            x.setRule(way, 5, 0, ranks[way]);
        }
        for (int s = 0; s < 3; s++) {
            x.tell(s, 10);
        }
        x.tick(1);
        return x;
    }

    private static void hearings(String when, HarbourlightMonitor x, int... due) {
        int[] rules = {0, 0, 0, 1, 1, 2};
        int[] keys = {0, 1, 2, 0, 1, 0};
        for (int i = 0; i < due.length; i++) {
            c.due("19 " + when + ": alert(" + rules[i] + ", " + keys[i] + ", 2)", x.alert(rules[i], keys[i], 2), due[i]);
        }
    }

    private static void promise19Quiet() {
        hearings("the same RANK", burning(1, 1, 1), 0, 0, 0, 0, 0, 0);
        hearings("the PLACE NONE", burning(1, 2, 3), 3, 3, 3, 3, 3, 0);
        hearings("the same PLACE", burning(1, 0, 0), 0, 0, 0, 3, 3, 0);
        hearings("NONE is kept quiet by NONE alone", burning(3, 2, 1), 0, 0, 0, 3, 3, 0);
        HarbourlightMonitor x = burning(1, 0, 0);
        x.tell(0, 0);
        x.tell(1, 0);
        x.tick(3);
        hearings("only another PLACE", x, 1, 1, 0, 1, 3, 0);

        HarbourlightMonitor y = new HarbourlightMonitor();
        gauges(y, 0, 0);
        y.tell(0, 10);
        y.rule(0, 0, 1, 2, 5, true);
        y.rule(0, 0, 1, 2, 5, true);
        y.setRule(1, 5, 3, 1);
        y.tick(3);
        c.due("19 one that is PENDING keeps none quiet", y.alert(0, 0, 2), 0);
        y.tick(1);
        c.due("19 NONE kept quiet by NONE", y.alert(0, 0, 2), 3);
        c.due("19 not by itself", y.alert(1, 0, 2), 0);
    }

    private static void promise19QuietAndHushed() {
        HarbourlightMonitor x = burning(0, 1, 2);
        x.hush(2, -1, 5);
        hearings("the loudest one HUSHED", x, 3, 3, 3, 0, 0, 2);
        x.hush(1, 0, 5);
        hearings("another one HUSHED at a PLACE", x, 0, 0, 3, 2, 0, 2);
        x.hush(0, -1, 5);
        hearings("HUSHED ahead of QUIET", x, 2, 2, 2, 2, 0, 2);
        x.unhush(0);
        hearings("one that is QUIET itself keeps others quiet", x, 2, 2, 2, 2, 3, 0);
        x.unhush(1);
        hearings("one HUSH for a PLACE", x, 3, 3, 3, 2, 3, 0);
        x.tick(5);
        hearings("as it is over", x, 3, 3, 3, 3, 3, 0);
    }

    private static void promise19OutsideOfKeys() {
        HarbourlightMonitor x = burning(0, 0, 0);
        int[] keys = {-1, 3, 11, 12, Integer.MIN_VALUE, Integer.MAX_VALUE};
        int[] due = {0, -1, 1};
        for (int key : keys) {
            for (int what = 0; what <= 2; what++) {
                c.due("19 alert(0, " + key + ", " + what + ")", x.alert(0, key, what), due[what]);
            }
        }
        c.badIndex("19 RULE 3", x, () -> x.alert(3, 0, 0));
        c.badIndex("19 RULE -1", x, () -> x.alert(-1, 0, 0));
        c.badIndex("19 RULE first", x, () -> x.alert(3, 0, 3));
        c.badArgument("19 what -1", x, () -> x.alert(0, 0, -1));
        c.badArgument("19 what 3", x, () -> x.alert(0, 0, 3));
        c.badArgument("19 what 3 without one", x, () -> x.alert(0, 11, 3));
    }

    private static void promise20AlertAt() {
        HarbourlightMonitor x = burning(0, 0, 0);
        x.setRule(1, 5, 20, 0);
        int[][] due = {{0, 0, 0}, {0, 1, 0}, {0, 2, 1}, {1, 0, 0}, {1, 1, 1}, {2, 0, -1}};
        for (int place = 0; place < due.length; place++) {
            for (int what = 0; what <= 2; what++) {
                c.due("20 alertAt(" + place + ", " + what + ")", x.alertAt(place, what), due[place][what]);
            }
        }
        x.tell(0, 0);
        x.tell(2, 0);
        x.tick(3);
        int[][] then = {{0, 1, 0}, {1, 0, 0}, {2, 0, -1}};
        for (int place = 0; place < then.length; place++) {
            for (int what = 0; what <= 2; what++) {
                c.due("20 then alertAt(" + place + ", " + what + ")", x.alertAt(place, what), then[place][what]);
            }
        }
        x.tell(2, 6);
        x.tick(1);
        c.due("20 one that is PENDING, too", x.alertAt(3, 0), 1);
        c.due("20 one that is PENDING, too", x.alertAt(3, 1), 1);
        c.due("20 and is it", x.alert(1, 1, 0), 1);
    }

    private static void promise20Refuses() {
        HarbourlightMonitor x = burning(0, 0, 0);
        c.badIndex("20 place 6", x, () -> x.alertAt(6, 0));
        c.badIndex("20 place -1", x, () -> x.alertAt(-1, 0));
        c.badIndex("20 place first", x, () -> x.alertAt(6, 3));
        c.badIndex("20 place far", x, () -> x.alertAt(Integer.MIN_VALUE, 0));
        c.badIndex("20 place far", x, () -> x.alertAt(Integer.MAX_VALUE, 0));
        c.badArgument("20 what -1", x, () -> x.alertAt(0, -1));
        c.badArgument("20 what 3", x, () -> x.alertAt(5, 3));
    }

    private static void hushes(HarbourlightMonitor x, String when, int... due) {
        for (int h = 0; h < due.length; h++) {
            c.due("21 ofHush(" + h + ", 3) " + when, x.ofHush(h, 3), due[h]);
        }
    }

    private static void promise21OfHush() {
        HarbourlightMonitor x = burning(0, 0, 0);
        x.hush(-1, -1, 3);
        x.hush(0, -1, 4);
        x.hush(-1, 0, 2);
        x.hush(2, 0, 60);
        x.hush(1, 1, 1);
        int[][] due = {{-1, -1, 4}, {0, -1, 5}, {-1, 0, 3}, {2, 0, 61}, {1, 1, 2}};
        for (int h = 0; h < due.length; h++) {
            for (int what = 0; what <= 2; what++) {
                c.due("21 ofHush(" + h + ", " + what + ")", x.ofHush(h, what), due[h][what]);
            }
        }
        hushes(x, "at first", 6, 3, 3, 0, 1);
        x.series(1, 0, 0);
        x.tell(3, 10);
        x.setRule(0, 5, 9, 0);
        x.tick(1);
        hushes(x, "with one PENDING, and one over", 7, 4, 4, 0, 0);
        x.tick(1);
        hushes(x, "with two over", 7, 4, 0, 0, 0);
        x.tick(1);
        hushes(x, "with three over", 0, 4, 0, 0, 0);
        x.tick(1);
        hushes(x, "with all over", 0, 0, 0, 0, 0);
        c.due("21 till when, though over", x.ofHush(1, 2), 5);
        c.badIndex("21 HUSH 5", x, () -> x.ofHush(5, 0));
        c.badIndex("21 HUSH -1", x, () -> x.ofHush(-1, 0));
        c.badIndex("21 HUSH first", x, () -> x.ofHush(5, 4));
        c.badArgument("21 what -1", x, () -> x.ofHush(0, -1));
        c.badArgument("21 what 4", x, () -> x.ofHush(0, 4));
    }
}

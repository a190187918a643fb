/** Promises 23 to 27: what would be. */
public final class WouldBeTest {
    private static final Checks c = new Checks();

    public static void main(String[] args) {
        promise23BurningIn();
        promise23FadingGrowth();
        promise23IsWhatTicksBring();
        promise23Refuses();
        promise24Beyond();
        promise25Calm();
        promise26LoudWithout();
        promise27Digest();
        promise27ChangesNothing();
        c.end();
    }

    private static HarbourlightMonitor watching(int look, int w, int limit, boolean isAbove) {
        HarbourlightMonitor x = new HarbourlightMonitor();
        x.series(0, 0, 0);
        x.rule(0, look, w, 0, limit, isAbove);
        return x;
    }

    private static void burning(HarbourlightMonitor x, int... due) {
        long before = x.digest();
        for (int i = 0; i < due.length; i++) {
            c.due("23 burningIn(" + (i + 1) + ") at " + x.clock(), x.burningIn(i + 1), due[i]);
        }
        c.due("23 nothing is changed", x.digest(), before);
    }

    private static void promise23BurningIn() {
        HarbourlightMonitor x = watching(0, 1, 5, true);
        burning(x, 0, 0);
        x.tell(0, 6);
        burning(x, 1, 1, 1, 1, 1, 1, 1, 1, 1, 1);
        x.setRule(0, 5, 3, 0);
        burning(x, 0, 0, 0, 1, 1, 1, 1, 1, 1, 1);
        x.tick(2);
        burning(x, 0, 1, 1);
        x.tick(2);
        c.due("23 BURNS", x.many(4), 1);
        x.reset(0);
        burning(x, 1, 1, 0, 0);
        x.tick(2);
        burning(x, 0, 0);
        x.tell(0, 6);
        burning(x, 1, 1);
        x.tick(1);
        x.reset(0);
        burning(x, 1, 1, 0, 0);
    }

    private static void promise23FadingGrowth() {
        HarbourlightMonitor x = watching(1, 3, 20, true);
        x.tick(1);
        x.tell(0, 30);
        // The growth is seen with the TICKS to 2, 3 and 4, not with 5, 6 and 7.
        burning(x, 1, 1, 1, 1, 1, 0, 0, 0, 0, 0);
        x.tick(3);
        burning(x, 1, 1, 0);
        HarbourlightMonitor y = watching(2, 4, 7, true);
        y.tick(3);
        y.tell(0, 10);
        // MEANS with the TICKS to come: 2, 5, 7, 10
        burning(y, 0, 0, 0, 1);
        HarbourlightMonitor z = watching(4, 12, 5, true);
        z.tell(0, 6);
        z.tick(10);
        z.reset(0);
        z.tick(3);
        z.tell(0, 8);
        z.setRule(0, -1, 10, 0);
        burning(z, 0, 0, 0, 0, 0, 0, 0, 0, 0, 0);
        z.setRule(0, -1, 9, 0);
        burning(z, 0, 0, 0, 0, 0, 0, 0, 0, 0, 1);
    }

    private static void promise23IsWhatTicksBring() {
        for (int look = 0; look <= 8; look++) {
            for (int ticks = 1; ticks <= 10; ticks++) {
                HarbourlightMonitor x = new HarbourlightMonitor();
                for (int s = 0; s < 12; s++) {
                    x.series(s % 3, s % 2, s % 6);
                }
                for (int rule = 0; rule < 6; rule++) {
                    x.rule(rule % 2, look, 1 + rule * 2, rule % 3, 20 - rule * 3, rule != 4);
                    x.setRule(rule, 20 - rule * 3, rule, 0);
                }
                for (int s = 0; s < 12; s++) {
                    x.tell(s, s * 6);
                    x.tick(1 + s % 2);
                    x.tell(s, 100 - s * 6);
                }
                int would = x.burningIn(ticks);
                x.tick(ticks);
                c.due("23 LOOK " + look + ", burningIn(" + ticks + ")", would, x.many(4));
            }
        }
    }

    private static void promise23Refuses() {
        HarbourlightMonitor x = watching(0, 1, 5, true);
        c.badArgument("23 ticks 0", x, () -> x.burningIn(0));
        c.badArgument("23 ticks 11", x, () -> x.burningIn(11));
        c.badArgument("23 ticks far", x, () -> x.burningIn(Integer.MIN_VALUE));
        c.badArgument("23 ticks far", x, () -> x.burningIn(Integer.MAX_VALUE));
    }

    /** RULES 0 of each, 1 of PLACES, 2 of all, ABOVE; 3, 4, 5 below; SERIES 30, -10, 20 at 0, 0, 1. */
    private static HarbourlightMonitor standing() {
        HarbourlightMonitor x = new HarbourlightMonitor();
        x.series(1, 0, 0);
        x.series(1, 0, 0);
        x.series(1, 0, 1);
        for (int rule = 0; rule < 6; rule++) {
            x.rule(0, 0, 1, rule % 3, 0, rule < 3);
        }
        x.tell(0, 30);
        x.tell(1, -10);
        x.tell(2, 20);
        return x;
    }

    private static void promise24Beyond() {
        HarbourlightMonitor x = standing();
        c.due("24 without SAMPLES all is 0", x.beyond(0, -1), 3);
        c.due("24 without SAMPLES all is 0", x.beyond(0, 0), 0);
        x.tick(1);
        x.tell(0, 999);
        int[] limits = {-10000, -11, -10, 19, 20, 29, 30, 39, 40, 41, 10000};
        int[][] due = {
            {3, 3, 2, 2, 1, 1, 0, 0, 0, 0, 0}, {2, 2, 2, 2, 0, 0, 0, 0, 0, 0, 0}, {1, 1, 1, 1, 1, 1, 1, 1, 0, 0, 0},
            {0, 0, 0, 1, 1, 2, 2, 3, 3, 3, 3}, {0, 0, 0, 0, 0, 2, 2, 2, 2, 2, 2}, {0, 0, 0, 0, 0, 0, 0, 0, 0, 1, 1},
        };
        for (int rule = 0; rule < 6; rule++) {
            for (int i = 0; i < limits.length; i++) {
                c.due("24 beyond(" + rule + ", " + limits[i] + ")", x.beyond(rule, limits[i]), due[rule][i]);
            }
        }
        c.badIndex("24 RULE 6", x, () -> x.beyond(6, 0));
        c.badIndex("24 RULE -1", x, () -> x.beyond(-1, 0));
        c.badIndex("24 RULE first", x, () -> x.beyond(6, 10001));
        c.badArgument("24 limit 10001", x, () -> x.beyond(0, 10001));
        c.badArgument("24 limit -10001", x, () -> x.beyond(0, -10001));
    }

    private static void promise25Calm() {
        HarbourlightMonitor x = standing();
        for (int rule = 0; rule < 6; rule++) {
            c.due("25 without SAMPLES", x.calm(rule), 0);
        }
        x.tick(1);
        x.tell(0, 999);
        int[] due = {30, 20, 40, -10, 20, 40};
        for (int rule = 0; rule < 6; rule++) {
            c.due("25 calm(" + rule + ")", x.calm(rule), due[rule]);
        }
        x.dropRule();
        x.rule(1, 0, 1, 0, 100, true);
        c.due("25 without KEYS", x.calm(5), 0);
        for (int s = 0; s < 3; s++) {
            x.tell(s, -1000);
        }
        x.tick(1);
        c.due("25 ABOVE, all below 0", x.calm(0), -1000);
        c.due("25 below, all below 0", x.calm(3), -1000);
        x.tell(2, -7);
        x.tell(1, -8);
        x.tick(1);
        c.due("25 ABOVE, all below 0", x.calm(0), -7);
        c.badIndex("25 RULE 6", x, () -> x.calm(6));
        c.badIndex("25 RULE -1", x, () -> x.calm(-1));

        HarbourlightMonitor y = watching(0, 1, 0, true);
        for (int i = 0; i < 12; i++) {
            y.tell(0, 1000);
        }
        y.tick(1);
        c.due("25 outside of the range of a LIMIT", y.calm(0), 12000);
    }

    private static void promise26LoudWithout() {
        HarbourlightMonitor x = new HarbourlightMonitor();
        x.series(1, 0, 0);
        x.series(1, 0, 1);
        x.rule(0, 0, 1, 0, 5, true);
        x.rule(0, 0, 1, 2, 5, true);
        x.setRule(1, 5, 0, 1);
        x.tell(0, 6);
        x.tell(1, 6);
        x.tick(1);
        c.badIndex("26 none", x, () -> x.loudWithout(0));
        c.due("26 LOUD", x.many(5), 1);
        x.hush(0, 0, 5);
        x.hush(1, -1, 3);
        x.hush(0, -1, 2);
        x.hush(-1, 0, 4);
        c.due("26 LOUD", x.many(5), 0);
        int[] due = {0, 1, 1, 0};
        for (int h = 0; h < 4; h++) {
            c.due("26 loudWithout(" + h + ")", x.loudWithout(h), due[h]);
        }
        x.tick(1);
        c.due("26 HUSHES stay", x.many(2), 4);
        x.tick(1);
        // HUSH 2 is over
        int[] then = {1, 1, 1, 1};
        for (int h = 0; h < 4; h++) {
            c.due("26 then loudWithout(" + h + ")", x.loudWithout(h), then[h]);
        }
        c.due("26 LOUD", x.many(5), 1);
        x.unhush(3);
        c.due("26 more than now", x.loudWithout(0), 2);
        c.due("26 fewer than now", x.many(5) + x.loudWithout(1), 2);
        x.tick(1);
        c.due("26 over, and so nothing", x.loudWithout(1), x.many(5));
        c.badIndex("26 HUSH 3", x, () -> x.loudWithout(3));
        c.badIndex("26 HUSH -1", x, () -> x.loudWithout(-1));
    }

    private static long fold(long d, long v) {
        return d * 31 + v;
    }

    /** The checksum by the words of the document, out of the other calls alone. */
    private static long foldedByHand(HarbourlightMonitor x, int[] limits, int notices) {
        long d = fold(58073, x.clock());
        for (int what = 0; what <= 6; what++) {
            d = fold(d, x.many(what));
        }
        for (int s = 0; s < x.many(0); s++) {
            for (int what = 0; what <= 6; what++) {
                d = fold(d, x.now(s, what));
            }
            d = fold(fold(d, x.sample(s, 0)), x.sample(s, 1));
            for (int look = 0; look <= 8; look++) {
                d = fold(d, x.look(s, look, 5));
            }
        }
        for (int rule = 0; rule < x.many(1); rule++) {
            d = fold(fold(d, x.calm(rule)), x.beyond(rule, limits[rule]));
        }
        for (int place = 0; place < x.many(3); place++) {
            for (int what = 0; what <= 2; what++) {
                d = fold(d, x.alertAt(place, what));
            }
            for (int what = 0; what <= 2; what++) {
                d = fold(d, x.alert(x.alertAt(place, 0), x.alertAt(place, 1), what));
            }
        }
        for (int h = 0; h < x.many(2); h++) {
            for (int what = 0; what <= 3; what++) {
                d = fold(d, x.ofHush(h, what));
            }
            d = fold(d, x.loudWithout(h));
        }
        for (int back = 0; back < notices; back++) {
            for (int what = 0; what <= 3; what++) {
                d = fold(d, x.notice(back, what));
            }
        }
        return d;
    }

    private static void promise27Digest() {
        HarbourlightMonitor x = new HarbourlightMonitor();
        long d = 58073;
        for (int i = 0; i < 8; i++) {
            d = d * 31;
        }
        c.due("27 of a new object", x.digest(), d);
        int[] limits = {-5, 5, 15};
        int notices = 0;
        for (int rounds = 0; rounds <= 24; rounds++) {
            HarbourlightMonitor y = replayed(limits, rounds);
            notices = y.many(6);
            long due = foldedByHand(y, limits, Math.min(30, notices));
            c.due("27 behind " + rounds + " rounds", y.digest(), due);
        }
        c.due("27 more NOTICES than are kept: " + notices, notices > 30 ? 1 : 0, 1);
    }

    private static HarbourlightMonitor replayed(int[] limits, int rounds) {
        HarbourlightMonitor x = new HarbourlightMonitor();
        for (int s = 0; s < 4; s++) {
            x.series(s % 3, s % 2, s);
        }
        for (int rule = 0; rule < 3; rule++) {
            x.rule(rule % 2, rule, 6, rule, limits[rule], rule != 1);
            x.setRule(rule, limits[rule], rule, rule == 0 ? 2 : rule % 2);
        }
        x.group(2, 5);
        for (int round = 0; round < rounds; round++) {
            for (int s = 0; s < 4; s++) {
                x.tell(s, (round * 37 + s * 11) % 120);
            }
            if (round % 5 == 0) {
                x.hush(round % 2 == 0 ? -1 : 2, round % 4, 2 + round);
            }
            x.tick(2 + round % 3);
        }
        return x;
    }

    private static void promise27ChangesNothing() {
        HarbourlightMonitor x = standing();
        x.tick(5);
        x.hush(0, 1, 9);
        long before = x.digest();
        c.due("27 again", x.digest(), before);
        c.due("27 beyond, calm, loudWithout and burningIn change nothing",
                x.beyond(0, 5) + x.calm(0) * 0 + x.loudWithout(0) * 0 + x.burningIn(10) * 0, 2);
        c.due("27 after them", x.digest(), before);
        x.tell(0, 31);
        c.due("27 a VALUE is in it", x.digest() == before ? 1 : 0, 0);
    }
}

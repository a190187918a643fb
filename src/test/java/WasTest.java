/** Promises 13 to 17, and Terms 1: what was. */
public final class WasTest {
    private static final Checks c = new Checks();

    public static void main(String[] args) {
        promise13Many();
        promise14Now();
        promise15Sample();
        promise16LooksOfACounter();
        promise16LooksOfAGauge();
        promise16Parts();
        promise16PartsOfMany();
        promise16PartsGrow();
        promise16Refuses();
        promise17Growth();
        c.end();
    }

    private static void promise13Many() {
        HarbourlightMonitor x = new HarbourlightMonitor();
        x.series(1, 0, 0);
        x.series(1, 0, 1);
        x.series(1, 1, 2);
        x.rule(0, 0, 1, 0, 5, true);
        x.rule(1, 0, 1, 0, 5, true);
        x.setRule(1, 5, 20, 0);
        x.hush(0, 1, 1);
        x.hush(0, 1, 10);
        x.tell(0, 10);
        x.tell(1, 10);
        x.tell(2, 10);
        x.tick(2);
        int[] due = {3, 2, 2, 3, 2, 1, 1};
        for (int what = 0; what < due.length; what++) {
            c.due("13 many(" + what + ")", x.many(what), due[what]);
        }
        x.tick(10);
        c.due("13 also HUSHES that are over", x.many(2), 2);
        c.due("13 LOUD", x.many(5), 2);
        c.badArgument("13 what -1", x, () -> x.many(-1));
        c.badArgument("13 what 7", x, () -> x.many(7));
        c.badArgument("13 what far", x, () -> x.many(Integer.MIN_VALUE));
    }

    private static void promise14Now() {
        HarbourlightMonitor x = new HarbourlightMonitor();
        x.series(0, 0, 0);
        x.series(2, 0, 0);
        x.tell(0, 9);
        int[] told = {1, 20, 20, 60, 60, 60, 200, 900, 900};
        for (int number : told) {
            x.tell(1, number);
        }
        x.tick(2);
        int[] due = {9, 2, 1, 2, 3, 1, 2};
        for (int what = 0; what <= 6; what++) {
            c.due("14 HISTOGRAM " + what, x.now(1, what), due[what]);
            c.due("14 COUNTER " + what, x.now(0, what), what == 0 ? 9 : what == 1 ? 2 : 0);
        }
        x.tell(0, 1);
        c.due("14 as it is, not as it was", x.now(0, 0), 10);
        for (int t = 0; t < 11; t++) {
            c.due("14 SAMPLES", x.now(0, 1), t + 2);
            x.tick(1);
        }
        c.due("14 SAMPLES", x.now(0, 1), 13);
        x.tick(10);
        c.due("14 no more than 13", x.now(0, 1), 13);
        c.badIndex("14 SERIES 2", x, () -> x.now(2, 0));
        c.badIndex("14 SERIES -1", x, () -> x.now(-1, 0));
        c.badIndex("14 SERIES first", x, () -> x.now(2, 7));
        c.badArgument("14 what 7", x, () -> x.now(0, 7));
        c.badArgument("14 what -1", x, () -> x.now(0, -1));
    }

    private static void promise15Sample() {
        HarbourlightMonitor x = new HarbourlightMonitor();
        x.series(1, 0, 0);
        c.due("15 none", x.sample(0, 0), 0);
        for (int t = 1; t <= 20; t++) {
            x.tell(0, t);
            x.tick(1);
            c.due("15 the latest", x.sample(0, 0), t);
        }
        x.tell(0, 99);
        for (int back = 0; back < 13; back++) {
            c.due("15 back " + back, x.sample(0, back), 20 - back);
        }
        c.due("15 back 13", x.sample(0, 13), 0);
        c.due("15 back far", x.sample(0, Integer.MAX_VALUE), 0);
        c.badArgument("15 back -1", x, () -> x.sample(0, -1));
        c.badArgument("15 back far", x, () -> x.sample(0, Integer.MIN_VALUE));
        c.badIndex("15 SERIES 1", x, () -> x.sample(1, 0));
        c.badIndex("15 SERIES first", x, () -> x.sample(-1, -1));
    }

    private static void promise16LooksOfACounter() {
        HarbourlightMonitor x = new HarbourlightMonitor();
        x.series(0, 0, 0);
        for (int look = 0; look <= 8; look++) {
            c.due("16 without SAMPLES", x.look(0, look, 12), 0);
        }
        int[] told = {5, 10, 0, 20};
        for (int number : told) {
            x.tell(0, number);
            x.tick(1);
        }
        x.reset(0);
        x.tell(0, 7);
        x.tick(1);
        x.tell(0, 500);
        // SAMPLES: 5, 15, 15, 35, 7
        c.due("16 LAST", x.look(0, 0, 3), 7);
        c.due("16 GROWTH 1", x.look(0, 1, 1), 7);
        c.due("16 GROWTH 2", x.look(0, 1, 2), 27);
        c.due("16 GROWTH 3", x.look(0, 1, 3), 27);
        c.due("16 GROWTH 4", x.look(0, 1, 4), 37);
        c.due("16 GROWTH 12", x.look(0, 1, 12), 37);
        c.due("16 MEAN 1", x.look(0, 2, 1), 7);
        c.due("16 MEAN 3", x.look(0, 2, 3), 19);
        c.due("16 MEAN 12", x.look(0, 2, 12), 15);
        c.due("16 MOST 1", x.look(0, 3, 1), 7);
        c.due("16 MOST 2", x.look(0, 3, 2), 35);
        c.due("16 LEAST 4", x.look(0, 4, 4), 7);
        c.due("16 LEAST 5", x.look(0, 4, 5), 5);
        for (int look = 5; look <= 8; look++) {
            c.due("16 PART", x.look(0, look, 5), 0);
        }
        x.tick(10);
        x.tick(3);
        c.due("16 GROWTH 12 of 13 SAMPLES", x.look(0, 1, 12), 0);
    }

    private static void promise16LooksOfAGauge() {
        HarbourlightMonitor x = new HarbourlightMonitor();
        x.series(1, 0, 0);
        int[] told = {-4, -9, 2, -1};
        for (int number : told) {
            x.tell(0, number);
            x.tick(1);
        }
        c.due("16 LAST", x.look(0, 0, 1), -1);
        c.due("16 GROWTH 1", x.look(0, 1, 1), -1);
        c.due("16 GROWTH 2", x.look(0, 1, 2), 10);
        c.due("16 GROWTH 3 below 0", x.look(0, 1, 3), 1);
        c.due("16 MEAN cut towards 0", x.look(0, 2, 2), 0);
        c.due("16 MEAN cut towards 0", x.look(0, 2, 3), -2);
        c.due("16 MEAN 4", x.look(0, 2, 4), -3);
        c.due("16 MOST below 0", x.look(0, 3, 1), -1);
        c.due("16 MOST 4", x.look(0, 3, 4), 2);
        c.due("16 LEAST 2", x.look(0, 4, 2), -1);
        c.due("16 LEAST 4", x.look(0, 4, 4), -9);
        c.due("16 PART", x.look(0, 5, 4), 0);
    }

    private static void promise16Parts() {
        HarbourlightMonitor x = new HarbourlightMonitor();
        x.series(2, 0, 0);
        x.tick(1);
        c.due("16 n is 0", x.look(0, 5, 1), 0);
        int[] values = {3, 30, 30, 30, 70, 300, 300, 300, 300, 800};
        for (int value : values) {
            x.tell(0, value);
        }
        x.tick(1);
        // COUNTS 1, 3, 1, 4, 1: PART 50 is the 5th, just all of the third COUNT; 75 the 8th; 90 the 9th; 99 the 10th
        c.due("16 PART 50", x.look(0, 5, 1), 100);
        c.due("16 PART 75", x.look(0, 6, 1), 100 + 400 * 3 / 4);
        c.due("16 PART 90", x.look(0, 7, 1), 500);
        c.due("16 PART 99", x.look(0, 8, 1), 500);
        x.tick(1);
        c.due("16 PART over 1, nothing grew", x.look(0, 5, 1), 0);
        c.due("16 PART over 2", x.look(0, 5, 2), 100);
        x.tell(0, 20);
        x.tell(0, 20);
        x.tell(0, 0);
        x.tell(0, 0);
        x.tell(0, 0);
        x.tick(1);
        // COUNTS grew by 3, 2: PART 50 is the 3rd, 75 the 4th, 90 and 99 the 5th
        c.due("16 PART 50 within 1", x.look(0, 5, 1), 10);
        c.due("16 PART 75 within 1", x.look(0, 6, 1), 30);
        c.due("16 PART 90 within 1", x.look(0, 7, 1), 50);
        x.tell(0, 60);
        x.tell(0, 60);
        x.tell(0, 60);
        x.tick(1);
        c.due("16 PART is cut", x.look(0, 5, 1), 50 + 50 * 2 / 3);
        c.due("16 PART 99 of the third COUNT", x.look(0, 8, 1), 100);
    }

    private static void promise16PartsOfMany() {
        HarbourlightMonitor x = new HarbourlightMonitor();
        x.series(2, 0, 0);
        x.tick(1);
        for (int i = 0; i < 9; i++) {
            x.tell(0, i);
        }
        x.tick(1);
        c.due("16 PART 50, the 5th of 9 in the first COUNT", x.look(0, 5, 1), 10 * 5 / 9);
        c.due("16 PART 75, the 7th of 9 in the first COUNT", x.look(0, 6, 1), 10 * 7 / 9);
        for (int i = 0; i < 200; i++) {
            x.tell(0, i < 80 ? 5 : i < 120 ? 20 : i < 160 ? 70 : 300);
        }
        x.tick(1);
        // COUNTS grew by 80, 40, 40, 40: the 100th, the 150th, the 180th, the 198th
        c.due("16 PART 50 of 200", x.look(0, 5, 1), 10 + 40 * 20 / 40);
        c.due("16 PART 75 of 200", x.look(0, 6, 1), 50 + 50 * 30 / 40);
        c.due("16 PART 90 of 200", x.look(0, 7, 1), 100 + 400 * 20 / 40);
        c.due("16 PART 99 of 200", x.look(0, 8, 1), 100 + 400 * 38 / 40);
        x.tell(0, 5);
        x.tell(0, 20);
        x.tick(1);
        c.due("16 PART 50, just all of the first COUNT", x.look(0, 5, 1), 10);
    }

    private static void promise16PartsGrow() {
        HarbourlightMonitor x = new HarbourlightMonitor();
        x.series(2, 0, 0);
        x.tell(0, 5);
        x.tell(0, 5);
        x.tell(0, 700);
        x.tick(1);
        c.due("16 one SAMPLE has not grown", x.look(0, 8, 12), 0);
        x.reset(0);
        x.tell(0, 5);
        x.tell(0, 20);
        x.tell(0, 20);
        x.tell(0, 20);
        x.tick(1);
        // VALUE 3 to 4; COUNTS: 2 to 1 (1), 0 to 3 (3), 1 to 0 (0)
        c.due("16 GROWTH of the VALUE", x.look(0, 1, 1), 1);
        c.due("16 PART 50, the 2nd of 4", x.look(0, 5, 1), 10 + 40 / 3);
        c.due("16 PART 99, the 4th of 4", x.look(0, 8, 1), 50);
        c.due("16 MEAN", x.look(0, 2, 2), 3);
    }

    private static void promise16Refuses() {
        HarbourlightMonitor x = new HarbourlightMonitor();
        x.series(2, 0, 0);
        c.badIndex("16 SERIES 1", x, () -> x.look(1, 0, 1));
        c.badIndex("16 SERIES first", x, () -> x.look(-1, 9, 13));
        c.badArgument("16 look -1", x, () -> x.look(0, -1, 1));
        c.badArgument("16 look 9", x, () -> x.look(0, 9, 1));
        c.badArgument("16 w 0", x, () -> x.look(0, 0, 0));
        c.badArgument("16 w 13", x, () -> x.look(0, 0, 13));
        c.badArgument("16 w far", x, () -> x.look(0, 1, Integer.MAX_VALUE));
        c.badArgument("16 look far", x, () -> x.look(0, Integer.MIN_VALUE, 1));
    }

    private static void promise17Growth() {
        HarbourlightMonitor x = new HarbourlightMonitor();
        c.due("17 without SERIES", x.growth(3, 1), 0.0);
        x.series(0, 3, 0);
        x.series(1, 3, 1);
        x.series(2, 3, 2);
        x.series(0, 4, 2);
        c.due("17 without SAMPLES", x.growth(3, 12), 0.0);
        x.tick(1);
        x.tell(0, 7);
        x.tell(1, -3);
        x.tell(2, 5);
        x.tell(3, 900);
        x.tick(1);
        c.due("17 not cut", x.growth(3, 1), 5.0 / 3.0);
        c.due("17 of one", x.growth(4, 1), 900.0);
        c.due("17 of none", x.growth(5, 1), 0.0);
        x.tick(1);
        c.due("17 below 0", x.growth(3, 1), 0.0);
        x.tell(1, -20);
        x.tick(1);
        c.due("17 below 0", x.growth(3, 1), -20.0 / 3.0);
        c.due("17 over 3", x.growth(3, 3), (7 - 3 + 1 - 20) / 3.0);
        c.badArgument("17 metric -1", x, () -> x.growth(-1, 1));
        c.badArgument("17 metric 6", x, () -> x.growth(6, 1));
        c.badArgument("17 w 0", x, () -> x.growth(0, 0));
        c.badArgument("17 w 13", x, () -> x.growth(0, 13));
    }
}

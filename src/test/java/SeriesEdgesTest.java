/** Terms 1 and promises 1 to 4 and 13 to 17: a test for each sentence that names an edge of SERIES and SAMPLES. */
public final class SeriesEdgesTest {
    private static final int COUNTER = 0;
    private static final int GAUGE = 1;
    private static final int HISTOGRAM = 2;

    private static final int LAST = 0;
    private static final int GROWTH = 1;
    private static final int MEAN = 2;
    private static final int MOST = 3;
    private static final int LEAST = 4;
    private static final int PART_50 = 5;
    private static final int PART_75 = 6;
    private static final int PART_90 = 7;
    private static final int PART_99 = 8;

    private static final Checks c = new Checks();

    public static void main(String[] args) {
        twelveSeries();
        metricsAndPlaces();
        zeroAtFirst();
        boundsOfCounts();
        allFiveTogether();
        callsAtTheMost();
        thirteenSamples();
        samplesOfOneThatCameLater();
        lastIsOfTheLatestSample();
        looksAreOfSamplesAlone();
        growthOverWPlusOne();
        growthBelowZero();
        growthOfACounterAnew();
        meanIsCutTowardsZero();
        fewerSamplesThanW();
        moreSamplesThanW();
        mostAndLeastBelowZero();
        partsOfOthers();
        partsOfNothing();
        howManyAreReached();
        justReached();
        countsWithoutGrowth();
        lowAndHigh();
        partOfCountsAnew();
        withoutSamples();
        tellAnswersItsValue();
        resetKeepsSamples();
        countsOfOthers();
        backToWhatIsNot();
        growthIsNotCut();
        growthWithoutAny();
        c.end();
    }

    private static HarbourlightMonitor of(int kind) {
        HarbourlightMonitor x = new HarbourlightMonitor();
        x.series(kind, 0, 0);
        return x;
    }

    /** A GAUGE with a SAMPLE of each of the values. */
    private static HarbourlightMonitor gauged(int... values) {
        HarbourlightMonitor x = of(GAUGE);
        for (int value : values) {
            x.tell(0, value);
            x.tick(1);
        }
        return x;
    }

    /** A HISTOGRAM whose COUNTS have grown by as much, over the last TICK. */
    private static HarbourlightMonitor counted(int... growths) {
        HarbourlightMonitor x = of(HISTOGRAM);
        x.tick(1);
        count(x, growths);
        x.tick(1);
        return x;
    }

    private static void count(HarbourlightMonitor x, int... growths) {
        int[] values = {7, 40, 80, 300, 900};
        for (int column = 0; column < growths.length; column++) {
            for (int i = 0; i < growths[column]; i++) {
                x.tell(0, values[column]);
            }
        }
    }

    /** The answers of a LOOK over each w from 1 on. */
    private static void overEach(HarbourlightMonitor x, int look, int... due) {
        for (int w = 1; w <= due.length; w++) {
            c.due("look(0, " + look + ", " + w + ")", x.look(0, look, w), due[w - 1]);
        }
    }

    private static void parts(String name, HarbourlightMonitor x, int... due) {
        for (int i = 0; i < due.length; i++) {
            c.due(name + ", LOOK " + (PART_50 + i), x.look(0, PART_50 + i, 1), due[i]);
        }
    }

    private static void twelveSeries() {
        c.says("At most 12, numbered from 0, each a COUNTER (0), a GAUGE (1) or a HISTOGRAM (2), with a METRIC and a "
                + "PLACE, 0 to 5 each.");
        HarbourlightMonitor x = new HarbourlightMonitor();
        c.badIndex("tell(0), without any", x, () -> x.tell(0, 1));
        for (int s = 0; s < 12; s++) {
            int next = s;
            c.badIndex("tell of the next one", x, () -> x.tell(next, 1));
            c.due("its number", x.series(GAUGE, 0, 0), s);
            c.due("tell(" + s + ")", x.tell(s, 100 + s), 100 + s);
        }
        c.badState("a 13th", x, () -> x.series(GAUGE, 0, 0));
        c.badIndex("tell(12)", x, () -> x.tell(12, 1));
        c.due("many(0)", x.many(0), 12);
        for (int s = 0; s < 12; s++) {
            c.due("now(" + s + ", 0)", x.now(s, 0), 100 + s);
        }
    }

    private static void metricsAndPlaces() {
        c.says("with a METRIC and a PLACE, 0 to 5 each");
        HarbourlightMonitor x = new HarbourlightMonitor();
        for (int i = 0; i <= 5; i++) {
            x.series(COUNTER, i, 5 - i);
        }
        x.tick(1);
        for (int i = 0; i <= 5; i++) {
            x.rule(i, 0, 1, 0, -1, true);
            x.tell(i, 10 + i);
        }
        x.tick(1);
        for (int i = 0; i <= 5; i++) {
            c.due("METRIC " + i, x.growth(i, 1), 10.0 + i);
            c.due("the PLACE of SERIES " + i, x.alertAt(i, 2), 5 - i);
        }
    }

    private static void zeroAtFirst() {
        c.says("A COUNTER and a GAUGE have a VALUE (0 at first). A HISTOGRAM has five COUNTS (0 at first)");
        for (int kind = COUNTER; kind <= HISTOGRAM; kind++) {
            HarbourlightMonitor x = of(kind);
            for (int what = 0; what <= 6; what++) {
                c.due("kind " + kind + ", now(0, " + what + ")", x.now(0, what), 0);
            }
            c.due("kind " + kind + ", reset(0)", x.reset(0), 0);
        }
        c.due("a COUNTER told 0", of(COUNTER).tell(0, 0), 0);
        c.due("a COUNTER told 1", of(COUNTER).tell(0, 1), 1);
        c.due("a HISTOGRAM told 0", of(HISTOGRAM).tell(0, 0), 1);
    }

    private static void boundsOfCounts() {
        c.says("of values up to 10, up to 50, up to 100, up to 500, and above that, each counted once, in the first one "
                + "that it is not above");
        int[] values = {0, 1, 9, 10, 11, 49, 50, 51, 99, 100, 101, 499, 500, 501, 999, 1000};
        int[] counts = {0, 0, 0, 0, 1, 1, 1, 2, 2, 2, 3, 3, 3, 4, 4, 4};
        for (int i = 0; i < values.length; i++) {
            HarbourlightMonitor x = of(HISTOGRAM);
            x.tell(0, values[i]);
            for (int count = 0; count < 5; count++) {
                c.due("COUNT " + count + " of " + values[i], x.now(0, 2 + count), count == counts[i] ? 1 : 0);
            }
        }
    }

    private static void allFiveTogether() {
        c.says("its VALUE is all five together");
        HarbourlightMonitor x = of(HISTOGRAM);
        count(x, 1, 2, 3, 4, 5);
        c.due("now(0, 0)", x.now(0, 0), 15);
        c.due("tell answers it", x.tell(0, 1000), 16);
        x.tick(1);
        c.due("LAST", x.look(0, LAST, 1), 16);
        c.due("sample(0, 0)", x.sample(0, 0), 16);
        c.due("reset answers it", x.reset(0), 16);
        c.due("then", x.now(0, 0), 0);
    }

    private static void callsAtTheMost() {
        c.says("An object is used for at most 512 calls after it has been made");
        HarbourlightMonitor x = of(COUNTER);
        for (int call = 2; call < 512; call++) {
            c.due("call " + call, x.tell(0, 1000), (call - 1) * 1000);
        }
        c.due("call 512", x.now(0, 0), 510000);
        HarbourlightMonitor y = of(HISTOGRAM);
        y.tick(1);
        for (int call = 3; call < 511; call++) {
            y.tell(0, 300);
        }
        y.tick(1);
        // The 503rd of 508, in the fourth COUNT.
        c.due("PART 99 of 508", y.look(0, PART_99, 1), 100 + 400 * 503 / 508);
    }

    private static void thirteenSamples() {
        c.says("with each TICK each SERIES has one more, with all that it is then; the latest 13 are kept");
        HarbourlightMonitor x = of(GAUGE);
        for (int t = 1; t <= 27; t++) {
            x.tell(0, 100 + t);
            x.tick(1);
            int kept = Math.min(t, 13);
            c.due("how many at " + t, x.now(0, 1), kept);
            c.due("the latest at " + t, x.sample(0, 0), 100 + t);
            c.due("the oldest at " + t, x.sample(0, kept - 1), 100 + t - kept + 1);
            c.due("one behind it at " + t, x.sample(0, kept), 0);
            c.due("the 14th at " + t, x.sample(0, 13), 0);
        }
        HarbourlightMonitor y = of(GAUGE);
        y.tell(0, 5);
        y.tick(10);
        y.tell(0, 6);
        y.tick(4);
        for (int back = 0; back <= 13; back++) {
            c.due("of 14, sample(0, " + back + ")", y.sample(0, back), back < 4 ? 6 : back < 13 ? 5 : 0);
        }
    }

    private static void samplesOfOneThatCameLater() {
        c.says("with each TICK each SERIES has one more");
        HarbourlightMonitor x = of(GAUGE);
        x.tick(10);
        x.series(GAUGE, 0, 0);
        c.due("the first one", x.now(0, 1), 10);
        c.due("the one that came later", x.now(1, 1), 0);
        x.tell(1, 8);
        x.tick(3);
        c.due("the first one then", x.now(0, 1), 13);
        c.due("the one that came later then", x.now(1, 1), 3);
        c.due("its MEAN over 12", x.look(1, MEAN, 12), 8);
        c.due("its oldest one", x.sample(1, 2), 8);
        c.due("none behind it", x.sample(1, 3), 0);
    }

    private static void lastIsOfTheLatestSample() {
        c.says("LAST: the VALUE of the latest SAMPLE");
        HarbourlightMonitor x = gauged(3, 4);
        x.tell(0, 5);
        overEach(x, LAST, 4, 4, 4, 4, 4, 4, 4, 4, 4, 4, 4, 4);
        x.reset(0);
        c.due("after reset", x.look(0, LAST, 1), 4);
        x.tick(1);
        c.due("with the next TICK", x.look(0, LAST, 12), 0);
    }

    private static void looksAreOfSamplesAlone() {
        c.says("SAMPLES: with each TICK each SERIES has one more, with all that it is then");
        int[][] due = {{14, 8, 10, 14, 6, 0, 0, 0, 0}, {8, 2, 7, 8, 6, 0, 0, 0, 0}, {2, 1, 1, 2, 1, 10, 10, 10, 10}};
        for (int kind = COUNTER; kind <= HISTOGRAM; kind++) {
            HarbourlightMonitor x = of(kind);
            x.tell(0, 6);
            x.tick(1);
            x.tell(0, 8);
            x.tick(1);
            for (int round = 0; round < 3; round++) {
                for (int look = LAST; look <= PART_99; look++) {
                    c.due("kind " + kind + ", look(0, " + look + ", 12)", x.look(0, look, 12), due[kind][look]);
                }
                c.due("kind " + kind + ", growth(0, 12)", x.growth(0, 12), due[kind][GROWTH]);
                c.due("kind " + kind + ", sample(0, 0)", x.sample(0, 0), due[kind][LAST]);
                // What it is from now on, without a TICK, is in none of them.
                if (round == 0) {
                    x.tell(0, 900);
                } else {
                    x.reset(0);
                }
            }
        }
    }

    private static void growthOverWPlusOne() {
        c.says("GROWTH: over the LATEST w + 1, the sum, over each two of them that come one behind the other");
        HarbourlightMonitor x = of(COUNTER);
        for (int t = 0; t < 13; t++) {
            x.tell(0, t == 0 ? 1000 : t);
            x.tick(1);
        }
        // Grown by 1, 2, 3 .. 12; the VALUE of the first SAMPLE is no growth.
        overEach(x, GROWTH, 12, 23, 33, 42, 50, 57, 63, 68, 72, 75, 77, 78);
        x.tick(1);
        // The pair that grew by 1 has lost its first SAMPLE: over 12 there are the last 13.
        overEach(x, GROWTH, 0, 12, 23, 33, 42, 50, 57, 63, 68, 72, 75, 77);
        c.due("one SAMPLE alone", gauged(9).look(0, GROWTH, 1), 0);
        overEach(gauged(9, 11), GROWTH, 2, 2, 2, 2, 2, 2, 2, 2, 2, 2, 2, 2);
    }

    private static void growthBelowZero() {
        c.says("of the second VALUE less the first one, or, if that is below 0, the second VALUE (of a GAUGE that can be "
                + "below 0, too)");
        int[] values = {5, 5, 4, 0, -1, -1, -3, -2, 7, -7, 1000, -1000, 1000};
        int[] grown = {0, 4, 0, -1, 0, -3, 1, 9, -7, 1007, -1000, 2000};
        HarbourlightMonitor x = gauged(values[0]);
        int sum = 0;
        for (int i = 1; i < values.length; i++) {
            x.tell(0, values[i]);
            x.tick(1);
            sum += grown[i - 1];
            c.due(values[i - 1] + " to " + values[i], x.look(0, GROWTH, 1), grown[i - 1]);
            c.due("all up to " + values[i], x.look(0, GROWTH, 12), sum);
        }
    }

    private static void growthOfACounterAnew() {
        c.says("Lets a SERIES begin anew: its VALUE, or its COUNTS, are 0 (SAMPLES stay).");
        int[] before = {10, 10, 10, 10};
        int[] after = {9, 10, 11, 0};
        int[] grown = {9, 0, 1, 0};
        for (int i = 0; i < before.length; i++) {
            HarbourlightMonitor x = of(COUNTER);
            x.tell(0, before[i]);
            x.tick(1);
            x.reset(0);
            x.tell(0, after[i]);
            x.tick(1);
            c.due("anew from " + before[i] + " to " + after[i], x.look(0, GROWTH, 1), grown[i]);
        }
    }

    private static void meanIsCutTowardsZero() {
        c.says("/ is cut towards 0");
        int[][] values = {{-1, 0}, {1, 0}, {-3, 0}, {3, 0}, {-2, 0}, {-1, -2}, {-1, 0, 0}, {-7, 0, 0}, {7, 1, 0}, {-1, 1}};
        int[] means = {0, 0, -1, 1, -1, -1, 0, -2, 2, 0};
        for (int i = 0; i < values.length; i++) {
            String name = java.util.Arrays.toString(values[i]);
            c.due("MEAN of " + name, gauged(values[i]).look(0, MEAN, values[i].length), means[i]);
        }
    }

    private static void fewerSamplesThanW() {
        c.says("LATEST w of a SERIES are its last w SAMPLES (or all, if there are fewer).");
        HarbourlightMonitor x = gauged(60, 20, 10);
        overEach(x, MEAN, 10, 15, 30, 30, 30, 30, 30, 30, 30, 30, 30, 30);
        overEach(x, LEAST, 10, 10, 10, 10, 10, 10, 10, 10, 10, 10, 10, 10);
        overEach(x, MOST, 10, 20, 60, 60, 60, 60, 60, 60, 60, 60, 60, 60);
        overEach(x, GROWTH, 10, 30, 30, 30, 30, 30, 30, 30, 30, 30, 30, 30);
        overEach(gauged(-60, -20), MOST, -20, -20, -20, -20);
        overEach(gauged(-60, -20), LEAST, -20, -60, -60, -60);
        overEach(gauged(-60, -20), MEAN, -20, -40, -40, -40);
    }

    private static void moreSamplesThanW() {
        c.says("MEAN (the sum / how many), MOST and LEAST: of the VALUES of the LATEST w");
        HarbourlightMonitor x = gauged(1, 900, 12, 12, 12, 12, 12, 12, 12, 12, 12, 12, 12, 12);
        // 14 SAMPLES: 13 are kept, of which 900 is the oldest, outside of the LATEST 12.
        overEach(x, MEAN, 12, 12, 12, 12, 12, 12, 12, 12, 12, 12, 12, 12);
        overEach(x, MOST, 12, 12, 12, 12, 12, 12, 12, 12, 12, 12, 12, 12);
        c.due("GROWTH over 12 has 13 SAMPLES", x.look(0, GROWTH, 12), 12);
        c.due("GROWTH over 11 has 12", x.look(0, GROWTH, 11), 0);
        HarbourlightMonitor y = gauged(0, 24, 12, 12, 12, 12, 12, 12, 12, 12, 12, 12, 12);
        overEach(y, LEAST, 12, 12, 12, 12, 12, 12, 12, 12, 12, 12, 12, 12);
        overEach(y, MEAN, 12, 12, 12, 12, 12, 12, 12, 12, 12, 12, 12, 13);
        overEach(y, MOST, 12, 12, 12, 12, 12, 12, 12, 12, 12, 12, 12, 24);
    }

    private static void mostAndLeastBelowZero() {
        c.says("MOST and LEAST: of the VALUES of the LATEST w");
        overEach(gauged(-5, -9, -7), MOST, -7, -7, -5, -5);
        overEach(gauged(-5, -9, -7), LEAST, -7, -9, -9, -9);
        overEach(gauged(5, 9, 7), MOST, 7, 9, 9, 9);
        overEach(gauged(5, 9, 7), LEAST, 7, 7, 5, 5);
    }

    private static void partsOfOthers() {
        c.says("PART q (of HISTOGRAMS alone; 0 of others)");
        for (int kind = COUNTER; kind <= GAUGE; kind++) {
            HarbourlightMonitor x = of(kind);
            x.tick(1);
            x.tell(0, 300);
            x.tick(1);
            c.due("it has grown", x.look(0, GROWTH, 1), 300);
            parts("kind " + kind, x, 0, 0, 0, 0);
        }
        parts("a HISTOGRAM", counted(0, 0, 0, 1), 500, 500, 500, 500);
    }

    private static void partsOfNothing() {
        c.says("0, if n is 0");
        HarbourlightMonitor x = of(HISTOGRAM);
        count(x, 2, 2, 2, 2, 2);
        x.tick(1);
        parts("one SAMPLE", x, 0, 0, 0, 0);
        x.tick(1);
        parts("two that are the same", x, 0, 0, 0, 0);
        x.reset(0);
        x.tick(1);
        parts("all went to 0", x, 0, 0, 0, 0);
        x.tell(0, 700);
        x.tick(1);
        parts("one has grown", x, 500, 500, 500, 500);
        x.tick(1);
        parts("one TICK later", x, 0, 0, 0, 0);
        c.due("over 2", x.look(0, PART_50, 2), 500);
    }

    private static void howManyAreReached() {
        c.says("n as their sum, r as (q * n + 99) / 100");
        int[][] due = {
            {1, 1, 1, 1, 1}, {2, 1, 2, 2, 2}, {3, 2, 3, 3, 3}, {4, 2, 3, 4, 4}, {5, 3, 4, 5, 5}, {10, 5, 8, 9, 10},
            {11, 6, 9, 10, 11}, {20, 10, 15, 18, 20}, {99, 50, 75, 90, 99}, {100, 50, 75, 90, 99},
            {101, 51, 76, 91, 100}, {102, 51, 77, 92, 101}, {200, 100, 150, 180, 198},
        };
        for (int[] row : due) {
            int n = row[0];
            HarbourlightMonitor x = counted(0, 0, 0, n);
            for (int i = 0; i < 4; i++) {
                c.due("n is " + n + ", LOOK " + (PART_50 + i), x.look(0, PART_50 + i, 1), 100 + 400 * row[1 + i] / n);
            }
        }
    }

    private static void justReached() {
        c.says("in the first COUNT with which, and all ahead of it, r are reached, it is low + (high - low) * (r - those "
                + "ahead) / its GROWTH");
        parts("1 and 1: just with the first one", counted(1, 1), 10, 50, 50, 50);
        parts("1, 1, 1, 1: just with the second one", counted(1, 1, 1, 1), 50, 100, 500, 500);
        parts("1, 1, 1, 1, 1", counted(1, 1, 1, 1, 1), 100, 500, 500, 500);
        parts("0, 2, 2: just with the second one", counted(0, 2, 2), 50, 75, 100, 100);
        parts("0, 2, 3: the first one of the third", counted(0, 2, 3), 66, 83, 100, 100);
        parts("5, 3, 1, 1: each just", counted(5, 3, 1, 1), 10, 50, 100, 500);
        parts("4, 3, 1, 1, 1: each one later", counted(4, 3, 1, 1, 1), 23, 100, 500, 500);
        parts("9, 0, 0, 0, 1: just with the first one", counted(9, 0, 0, 0, 1), 5, 8, 10, 500);
        parts("99 and 1 above", counted(99, 0, 0, 0, 1), 5, 7, 9, 10);
        parts("98 and 2 above", counted(98, 0, 0, 0, 2), 5, 7, 9, 500);
    }

    private static void countsWithoutGrowth() {
        c.says("in the first COUNT with which, and all ahead of it, r are reached");
        parts("1, 0, 0, 1: those between have not grown", counted(1, 0, 0, 1), 10, 500, 500, 500);
        parts("0, 0, 1", counted(0, 0, 1), 100, 100, 100, 100);
        parts("0, 1, 0, 0, 1", counted(0, 1, 0, 0, 1), 50, 500, 500, 500);
        parts("0, 0, 0, 0, 3", counted(0, 0, 0, 0, 3), 500, 500, 500, 500);
    }

    private static void lowAndHigh() {
        c.says("with low and high as what is counted there (0 and 10, 10 and 50, 50 and 100, 100 and 500; above that it is "
                + "500)");
        parts("2 up to 10", counted(2), 5, 10, 10, 10);
        parts("2 up to 50", counted(0, 2), 30, 50, 50, 50);
        parts("2 up to 100", counted(0, 0, 2), 75, 100, 100, 100);
        parts("2 up to 500", counted(0, 0, 0, 2), 300, 500, 500, 500);
        parts("2 above that", counted(0, 0, 0, 0, 2), 500, 500, 500, 500);
        parts("3 up to 10, cut", counted(3), 6, 10, 10, 10);
        parts("7 up to 50, cut", counted(0, 7), 32, 44, 50, 50);
    }

    private static void partOfCountsAnew() {
        c.says("with the GROWTH of each of the five COUNTS, as above");
        HarbourlightMonitor x = counted(3);
        x.reset(0);
        count(x, 1, 2);
        x.tick(1);
        // The first COUNT from 3 to 1, which counts as 1; the second one from 0 to 2.
        c.due("GROWTH of the VALUE, from 3 to 3", x.look(0, GROWTH, 1), 0);
        parts("r is 2 and 3", x, 30, 50, 50, 50);
        // Over 2 the first COUNT has grown by 3 and by 1.
        c.due("over 2: r is 3 of 6", x.look(0, PART_50, 2), 10 * 3 / 4);
        c.due("over 2: r is 5 of 6", x.look(0, PART_75, 2), 30);
        c.due("over 12: the same", x.look(0, PART_90, 12), 50);
    }

    private static void withoutSamples() {
        c.says("Without SAMPLES all is 0.");
        for (int kind = COUNTER; kind <= HISTOGRAM; kind++) {
            HarbourlightMonitor x = of(kind);
            x.tell(0, 700);
            x.rule(0, 0, 1, 0, 0, true);
            for (int look = LAST; look <= PART_99; look++) {
                c.due("kind " + kind + ", look(0, " + look + ", 1)", x.look(0, look, 1), 0);
                c.due("kind " + kind + ", look(0, " + look + ", 12)", x.look(0, look, 12), 0);
            }
            c.due("kind " + kind + ", sample(0, 0)", x.sample(0, 0), 0);
            c.due("kind " + kind + ", growth(0, 12)", x.growth(0, 12), 0.0);
            c.due("kind " + kind + ", stands(0, 0)", x.stands(0, 0), 0);
            c.due("kind " + kind + ", calm(0)", x.calm(0), 0);
        }
    }

    private static void tellAnswersItsValue() {
        c.says("Returns its VALUE then.");
        HarbourlightMonitor x = of(GAUGE);
        int[] values = {1000, -1000, 0, -1, -1};
        for (int value : values) {
            c.due("a GAUGE", x.tell(0, value), value);
            c.due("a GAUGE, now", x.now(0, 0), value);
        }
        HarbourlightMonitor y = of(COUNTER);
        c.due("a COUNTER", y.tell(0, 1000), 1000);
        c.due("a COUNTER", y.tell(0, 0), 1000);
        c.due("a COUNTER", y.tell(0, 1), 1001);
    }

    private static void resetKeepsSamples() {
        c.says("Returns its VALUE before.");
        HarbourlightMonitor x = gauged(-1000);
        c.due("a GAUGE", x.reset(0), -1000);
        c.due("again", x.reset(0), 0);
        c.due("its SAMPLE", x.sample(0, 0), -1000);
        c.due("how many SAMPLES", x.now(0, 1), 1);
        HarbourlightMonitor y = counted(1, 1, 1, 1, 1);
        c.due("a HISTOGRAM", y.reset(0), 5);
        for (int what = 2; what <= 6; what++) {
            c.due("its COUNT " + (what - 2), y.now(0, what), 0);
        }
        parts("its PARTS stay", y, 100, 500, 500, 500);
        c.due("its SAMPLE", y.sample(0, 0), 5);
    }

    private static void countsOfOthers() {
        c.says("`what`: 0 its VALUE, 1 how many SAMPLES it has, 2 to 6 its COUNTS (0 of others)");
        for (int kind = COUNTER; kind <= GAUGE; kind++) {
            HarbourlightMonitor x = of(kind);
            x.tell(0, 7);
            x.tick(2);
            int[] due = {7, 2, 0, 0, 0, 0, 0};
            for (int what = 0; what <= 6; what++) {
                c.due("kind " + kind + ", now(0, " + what + ")", x.now(0, what), due[what]);
            }
        }
    }

    private static void backToWhatIsNot() {
        c.says("Returns the VALUE of that; 0 without it.");
        HarbourlightMonitor x = gauged(8, 9);
        x.tell(0, 10);
        int[] backs = {0, 1, 2, 3, 12, 13, 14, 26, 1000, Integer.MAX_VALUE};
        int[] due = {9, 8, 0, 0, 0, 0, 0, 0, 0, 0};
        for (int i = 0; i < backs.length; i++) {
            c.due("sample(0, " + backs[i] + ")", x.sample(0, backs[i]), due[i]);
        }
    }

    private static void growthIsNotCut() {
        c.says("Returns the mean, not cut, of the GROWTH over w of all SERIES with that METRIC; 0 without any.");
        HarbourlightMonitor x = new HarbourlightMonitor();
        x.series(COUNTER, 5, 0);
        x.series(GAUGE, 5, 5);
        x.series(HISTOGRAM, 4, 0);
        x.tick(1);
        x.tell(0, 2);
        x.tell(1, 1);
        x.tell(2, 900);
        x.tick(1);
        c.due("2 and 1", x.growth(5, 1), 1.5);
        c.due("of a HISTOGRAM", x.growth(4, 1), 1.0);
        x.series(COUNTER, 5, 0);
        c.due("with one that has no SAMPLES", x.growth(5, 1), 1.0);
        x.tell(1, -4);
        x.tick(1);
        c.due("0, -4 and 0", x.growth(5, 1), -4.0 / 3.0);
        c.due("over 2: 2, 1 - 4 and 0", x.growth(5, 2), -1.0 / 3.0);
        c.due("over 12", x.growth(5, 12), -1.0 / 3.0);
    }

    private static void growthWithoutAny() {
        c.says("0 without any");
        for (int metric = 0; metric <= 5; metric++) {
            c.due("growth(" + metric + ", 1) of a new object", new HarbourlightMonitor().growth(metric, 1), 0.0);
        }
        HarbourlightMonitor x = gauged(1, 5);
        c.due("of METRIC 0", x.growth(0, 12), 4.0);
        c.due("of METRIC 1", x.growth(1, 12), 0.0);
    }
}

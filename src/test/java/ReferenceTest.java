import java.util.ArrayList;
import java.util.HashMap;
import java.util.List;
import java.util.Map;
import java.util.Random;
import java.util.TreeMap;
import java.util.TreeSet;

/**
 * Long runs of calls, drawn by fixed seeds, against a second engine that was written from the document alone, in the
 * slowest and plainest way: it keeps every SAMPLE and every NOTICE, and rehearses TICKS on a copy of itself.
 */
public final class ReferenceTest {
    private static final int RUNS = 1500;
    /** The digest() at the end is the last one that is promised. */
    private static final int CALLS = 511;

    public static void main(String[] args) {
        Checks c = new Checks();
        for (int run = 0; run < RUNS; run++) {
            Random random = new Random(run);
            HarbourlightMonitor x = new HarbourlightMonitor();
            Plain plain = new Plain();
            int wildness = run % 4 == 0 ? 30 : 0;
            for (int call = 0; call < CALLS; call++) {
                int[] a = drawn(random, call, wildness);
                String got = answer(x, a);
                String want = plain.answer(a);
                if (!got.equals(want)) {
                    c.due("run " + run + ", call " + call + " " + java.util.Arrays.toString(a) + ": " + got + ", due " + want, 0, 1);
                    break;
                }
            }
            c.due("run " + run + ": digest()", x.digest(), Long.parseLong(plain.answer(new int[] {25, 0, 0, 0, 0, 0, 0})));
        }
        c.end();
    }

    /** A call: its number in the document's order, then up to six arguments. */
    private static int[] drawn(Random random, int call, int wildness) {
        int kind;
        int dice = random.nextInt(100);
        if (call < 30) {
            kind = dice < 45 ? 0 : dice < 80 ? 3 : dice < 90 ? 4 : 1;
        } else if (dice < 30) {
            kind = 1;
        } else if (dice < 50) {
            kind = 9;
        } else {
            kind = random.nextInt(26);
        }
        int[][] edges = {
            {0, 2, 0, random.nextBoolean() ? 1 : 5, 0, random.nextBoolean() ? 2 : 5}, {0, 11, -20, 600}, {0, 11},
            {0, 1, 0, 8, 1, 12, 0, 2, -30, 200, 0, 1}, {0, 5, -30, 200, 0, 5, 0, 3}, {}, {-1, 5, -1, 5, 1, 12}, {0, 4},
            {0, 2, 5, 12}, {1, random.nextInt(5) == 0 ? 10 : 2}, {}, {0, 6}, {0, 11, 0, 6}, {0, 11, 0, 14}, {0, 11, 0, 8, 1, 12},
            {0, 5, 1, 12}, {0, 5, 0, 11}, {0, 5, 0, 11, 0, 2}, {0, 30, 0, 2}, {0, 4, 0, 3}, {0, 31, 0, 3}, {1, 10},
            {0, 5, -50, 300}, {0, 5}, {0, 4}, {},
        };
        int[] a = new int[7];
        a[0] = kind;
        for (int i = 0; i + 1 < edges[kind].length; i += 2) {
            int low = edges[kind][i];
            int high = edges[kind][i + 1];
            a[1 + i / 2] = low + random.nextInt(high - low + 1);
            if (random.nextInt(100) < wildness / 6) {
                int[] wild = {low - 1, high + 1, -1, 1001, 10001, -10001, Integer.MIN_VALUE, Integer.MAX_VALUE};
                a[1 + i / 2] = wild[random.nextInt(wild.length)];
            }
        }
        if (kind == 1 && random.nextInt(3) > 0) {
            int[] told = {0, 5, 10, 11, 30, 50, 51, 80, 100, 101, 300, 500, 501, 1000};
            a[2] = told[random.nextInt(told.length)];
        }
        return a;
    }

    private static String answer(HarbourlightMonitor x, int[] a) {
        try {
            switch (a[0]) {
                case 0: return "" + x.series(a[1], a[2], a[3]);
                case 1: return "" + x.tell(a[1], a[2]);
                case 2: return "" + x.reset(a[1]);
                case 3: return "" + x.rule(a[1], a[2], a[3], a[4], a[5], a[6] == 1);
                case 4: return "" + x.setRule(a[1], a[2], a[3], a[4]);
                case 5: return "" + x.dropRule();
                case 6: return "" + x.hush(a[1], a[2], a[3]);
                case 7: return "" + x.unhush(a[1]);
                case 8: return "" + x.group(a[1], a[2]);
                case 9: return "" + x.tick(a[1]);
                case 10: return "" + x.clock();
                case 11: return "" + x.many(a[1]);
                case 12: return "" + x.now(a[1], a[2]);
                case 13: return "" + x.sample(a[1], a[2]);
                case 14: return "" + x.look(a[1], a[2], a[3]);
                case 15: return "" + x.growth(a[1], a[2]);
                case 16: return "" + x.stands(a[1], a[2]);
                case 17: return "" + x.alert(a[1], a[2], a[3]);
                case 18: return "" + x.alertAt(a[1], a[2]);
                case 19: return "" + x.ofHush(a[1], a[2]);
                case 20: return "" + x.notice(a[1], a[2]);
                case 21: return "" + x.burningIn(a[1]);
                case 22: return "" + x.beyond(a[1], a[2]);
                case 23: return "" + x.calm(a[1]);
                case 24: return "" + x.loudWithout(a[1]);
                default: return "" + x.digest();
            }
        } catch (RuntimeException e) {
            return e.getClass().getSimpleName();
        }
    }

    /** The second engine. Answers are texts; a refused call answers the name of its exception. */
    private static final class Plain {
        private static final String INDEX = "IndexOutOfBoundsException";
        private static final String ARGUMENT = "IllegalArgumentException";
        private static final String STATE = "IllegalStateException";

        private List<int[]> series = new ArrayList<>(); // kind, metric, place
        private List<int[]> counts = new ArrayList<>(); // of a COUNTER or GAUGE the VALUE alone
        private List<List<int[]>> samples = new ArrayList<>(); // all of them, the oldest one first
        private List<int[]> rules = new ArrayList<>(); // metric, look, w, way, limit, above, wait, rank
        private List<int[]> hushes = new ArrayList<>(); // rule, place, till
        private TreeMap<Integer, int[]> alerts = new TreeMap<>(); // by rule * 100 + key: burns, since, calm TICKS
        private List<int[]> notices = new ArrayList<>(); // when, group, how many, rank
        private Map<Integer, TreeSet<Integer>> told = new HashMap<>();
        private Map<Integer, Integer> toldAt = new HashMap<>();
        private TreeSet<Integer> hadLoud = new TreeSet<>();
        private int clock = 0;
        private int grouping = 0;
        private int repeat = 10;

        private Plain copy() {
            Plain p = new Plain();
            p.clock = clock;
            series.forEach(s -> p.series.add(s.clone()));
            counts.forEach(s -> p.counts.add(s.clone()));
            samples.forEach(s -> p.samples.add(new ArrayList<>(s)));
            rules.forEach(s -> p.rules.add(s.clone()));
            alerts.forEach((k, v) -> p.alerts.put(k, v.clone()));
            return p;
        }

        private static boolean in(int v, int low, int high) {
            return low <= v && v <= high;
        }

        private static int sum(int[] row) {
            int all = 0;
            for (int v : row) {
                all += v;
            }
            return all;
        }

        String answer(int[] a) {
            boolean isSeries = in(a[1], 0, series.size() - 1);
            boolean isRule = in(a[1], 0, rules.size() - 1);
            boolean isHush = in(a[1], 0, hushes.size() - 1);
            switch (a[0]) {
                case 0: return addSeries(a);
                case 1: return !isSeries ? INDEX : tell(a[1], a[2]);
                case 2:
                    if (!isSeries) {
                        return INDEX;
                    }
                    int before = sum(counts.get(a[1]));
                    counts.set(a[1], new int[5]);
                    return "" + before;
                case 3: return addRule(a);
                case 4:
                    if (!isRule) {
                        return INDEX;
                    }
                    if (!in(a[2], -10000, 10000) || !in(a[3], 0, 20) || !in(a[4], 0, 3)) {
                        return ARGUMENT;
                    }
                    int[] set = rules.get(a[1]);
                    int limit = set[4];
                    set[4] = a[2];
                    set[6] = a[3];
                    set[7] = a[4];
                    return "" + limit;
                case 5: return dropRule();
                case 6:
                    if (a[1] != -1 && !isRule) {
                        return INDEX;
                    }
                    if (!in(a[2], -1, 5) || !in(a[3], 1, 60)) {
                        return ARGUMENT;
                    }
                    if (hushes.size() == 5) {
                        return STATE;
                    }
                    hushes.add(new int[] {a[1], a[2], clock + a[3]});
                    return "" + (hushes.size() - 1);
                case 7:
                    if (!isHush) {
                        return INDEX;
                    }
                    hushes.remove(a[1]);
                    return "" + hushes.size();
                case 8: return group(a[1], a[2]);
                case 9:
                    if (!in(a[1], 1, 10)) {
                        return ARGUMENT;
                    }
                    int had = notices.size();
                    for (int i = 0; i < a[1]; i++) {
                        tick();
                        notices();
                    }
                    return "" + (notices.size() - had);
                case 10: return "" + clock;
                case 11: return !in(a[1], 0, 6) ? ARGUMENT : "" + many(a[1]);
                case 12: return !isSeries ? INDEX : !in(a[2], 0, 6) ? ARGUMENT : "" + now(a[1], a[2]);
                case 13: return !isSeries ? INDEX : a[2] < 0 ? ARGUMENT : "" + sample(a[1], a[2]);
                case 14: return !isSeries ? INDEX : !in(a[2], 0, 8) || !in(a[3], 1, 12) ? ARGUMENT : "" + look(a[1], a[2], a[3]);
                case 15: return !in(a[1], 0, 5) || !in(a[2], 1, 12) ? ARGUMENT : "" + growth(a[1], a[2]);
                case 16:
                    return !isRule ? INDEX : "" + stands(rules.get(a[1])).getOrDefault(a[2], 0);
                case 17: return !isRule ? INDEX : !in(a[3], 0, 2) ? ARGUMENT : "" + alert(a[1], a[2], a[3]);
                case 18: return !in(a[1], 0, alerts.size() - 1) ? INDEX : !in(a[2], 0, 2) ? ARGUMENT : "" + alertAt(a[1], a[2]);
                case 19: return !isHush ? INDEX : !in(a[2], 0, 3) ? ARGUMENT : "" + ofHush(a[1], a[2]);
                case 20:
                    if (!in(a[1], 0, 29) || a[1] >= notices.size()) {
                        return INDEX;
                    }
                    return !in(a[2], 0, 3) ? ARGUMENT : "" + notices.get(notices.size() - 1 - a[1])[a[2]];
                case 21: return !in(a[1], 1, 10) ? ARGUMENT : "" + burningIn(a[1]);
                case 22: return !isRule ? INDEX : !in(a[2], -10000, 10000) ? ARGUMENT : "" + beyond(a[1], a[2]);
                case 23: return !isRule ? INDEX : "" + calm(a[1]);
                case 24: return !isHush ? INDEX : "" + loud(a[1]).size();
                default: return "" + digest();
            }
        }

        private String addSeries(int[] a) {
            if (!in(a[1], 0, 2) || !in(a[2], 0, 5) || !in(a[3], 0, 5)) {
                return ARGUMENT;
            }
            if (series.size() == 12) {
                return STATE;
            }
            series.add(new int[] {a[1], a[2], a[3]});
            counts.add(new int[5]);
            samples.add(new ArrayList<>());
            return "" + (series.size() - 1);
        }

        private String tell(int s, int number) {
            int kind = series.get(s)[0];
            if (!in(number, kind == 1 ? -1000 : 0, 1000)) {
                return ARGUMENT;
            }
            int[] row = counts.get(s);
            if (kind == 0) {
                row[0] += number;
            } else if (kind == 1) {
                row[0] = number;
            } else {
                row[number <= 10 ? 0 : number <= 50 ? 1 : number <= 100 ? 2 : number <= 500 ? 3 : 4]++;
            }
            return "" + sum(row);
        }

        private String addRule(int[] a) {
            if (!in(a[1], 0, 5) || !in(a[2], 0, 8) || !in(a[3], 1, 12) || !in(a[4], 0, 2) || !in(a[5], -10000, 10000)) {
                return ARGUMENT;
            }
            if (rules.size() == 6) {
                return STATE;
            }
            rules.add(new int[] {a[1], a[2], a[3], a[4], a[5], a[6] == 1 ? 1 : 0, 0, 0});
            return "" + (rules.size() - 1);
        }

        private String dropRule() {
            if (rules.isEmpty()) {
                return STATE;
            }
            int last = rules.size() - 1;
            rules.remove(last);
            alerts.keySet().removeIf(id -> id / 100 == last);
            hushes.removeIf(h -> h[0] == last);
            return "" + last;
        }

        private String group(int to, int every) {
            if (!in(to, 0, 2) || !in(every, 5, 50)) {
                return ARGUMENT;
            }
            int before = grouping;
            repeat = every;
            if (to != grouping) {
                grouping = to;
                told.clear();
                toldAt.clear();
                hadLoud.clear();
            }
            return "" + before;
        }

        private void tick() {
            clock++;
            for (int s = 0; s < series.size(); s++) {
                samples.get(s).add(counts.get(s).clone());
            }
            for (int rule = 0; rule < rules.size(); rule++) {
                int[] r = rules.get(rule);
                for (Map.Entry<Integer, Integer> standing : stands(r).entrySet()) {
                    int id = rule * 100 + standing.getKey();
                    boolean isBeyond = r[5] == 1 ? standing.getValue() > r[4] : standing.getValue() < r[4];
                    int[] alert = alerts.get(id);
                    if (isBeyond) {
                        if (alert == null) {
                            alert = new int[] {0, clock, 0};
                            alerts.put(id, alert);
                        }
                        alert[2] = 0;
                        if (alert[0] == 0 && alert[1] + r[6] <= clock) {
                            alert[0] = 1;
                            alert[1] = clock;
                        }
                    } else if (alert != null) {
                        alert[2]++;
                        if (alert[0] == 0 || alert[2] == 3) {
                            alerts.remove(id);
                        }
                    }
                }
            }
        }

        private void notices() {
            TreeSet<Integer> loud = loud(-1);
            TreeSet<Integer> hadBefore = hadLoud;
            hadLoud = new TreeSet<>();
            for (int group = 0; group <= 6; group++) {
                TreeSet<Integer> set = new TreeSet<>();
                int rank = -1;
                for (int id : loud) {
                    int place = placeOf(id);
                    int of = grouping == 0 ? 0 : grouping == 1 ? id / 100 : place == -1 ? 6 : place;
                    if (of == group) {
                        set.add(id);
                        rank = Math.max(rank, rules.get(id / 100)[7]);
                    }
                }
                if (!set.isEmpty()) {
                    hadLoud.add(group);
                }
                TreeSet<Integer> latest = told.getOrDefault(group, new TreeSet<>());
                boolean goesOut;
                if (set.isEmpty()) {
                    goesOut = !latest.isEmpty();
                } else if (latest.isEmpty()) {
                    goesOut = hadBefore.contains(group);
                } else {
                    int since = clock - toldAt.get(group);
                    goesOut = since >= repeat || !set.equals(latest) && since >= 3;
                }
                if (goesOut) {
                    notices.add(new int[] {clock, group, set.size(), rank});
                    told.put(group, set);
                    toldAt.put(group, clock);
                }
            }
        }

        private int[] back(int s, int back) {
            List<int[]> all = samples.get(s);
            return back < Math.min(13, all.size()) ? all.get(all.size() - 1 - back) : null;
        }

        private int sample(int s, int back) {
            int[] row = back(s, back);
            return row == null ? 0 : sum(row);
        }

        private static int grown(List<Integer> values) {
            int all = 0;
            for (int i = 1; i < values.size(); i++) {
                int more = values.get(i) - values.get(i - 1);
                all += more < 0 ? values.get(i) : more;
            }
            return all;
        }

        /** The LATEST w, the oldest one first; column -1 is the VALUE. */
        private List<Integer> latest(int s, int w, int column) {
            List<Integer> found = new ArrayList<>();
            for (int back = w - 1; back >= 0; back--) {
                int[] row = back(s, back);
                if (row != null) {
                    found.add(column < 0 ? sum(row) : row[column]);
                }
            }
            return found;
        }

        private int look(int s, int look, int w) {
            List<Integer> values = latest(s, w, -1);
            if (values.isEmpty()) {
                return 0;
            }
            switch (look) {
                case 0: return values.get(values.size() - 1);
                case 1: return grown(latest(s, w + 1, -1));
                case 2: return values.stream().mapToInt(v -> v).sum() / values.size();
                case 3: return values.stream().mapToInt(v -> v).max().getAsInt();
                case 4: return values.stream().mapToInt(v -> v).min().getAsInt();
                default: return part(s, new int[] {50, 75, 90, 99}[look - 5], w);
            }
        }

        private int part(int s, int q, int w) {
            if (series.get(s)[0] != 2) {
                return 0;
            }
            int[] edges = {0, 10, 50, 100, 500, 500};
            List<int[]> each = new ArrayList<>(); // one for each value counted: low, high, place in its COUNT, its COUNT
            for (int column = 0; column < 5; column++) {
                int grown = grown(latest(s, w + 1, column));
                for (int i = 1; i <= grown; i++) {
                    each.add(new int[] {edges[column], edges[column + 1], i, grown});
                }
            }
            if (each.isEmpty()) {
                return 0;
            }
            int[] at = each.get((q * each.size() + 99) / 100 - 1);
            return at[0] + (at[1] - at[0]) * at[2] / at[3];
        }

        private double growth(int metric, int w) {
            double all = 0;
            int how = 0;
            for (int s = 0; s < series.size(); s++) {
                if (series.get(s)[1] == metric) {
                    all += look(s, 1, w);
                    how++;
                }
            }
            return how == 0 ? 0 : all / how;
        }

        private TreeMap<Integer, Integer> stands(int[] rule) {
            TreeMap<Integer, Integer> found = new TreeMap<>();
            for (int s = 0; s < series.size(); s++) {
                if (series.get(s)[1] == rule[0]) {
                    int key = rule[3] == 0 ? s : rule[3] == 1 ? series.get(s)[2] : 0;
                    found.merge(key, look(s, rule[1], rule[2]), Integer::sum);
                }
            }
            return found;
        }

        private int placeOf(int id) {
            int way = rules.get(id / 100)[3];
            return way == 0 ? series.get(id % 100)[2] : way == 1 ? id % 100 : -1;
        }

        private boolean covers(int[] hush, int id) {
            return clock < hush[2] && (hush[0] == -1 || hush[0] == id / 100) && (hush[1] == -1 || hush[1] == placeOf(id));
        }

        private boolean isHushed(int id, int without) {
            for (int h = 0; h < hushes.size(); h++) {
                if (h != without && covers(hushes.get(h), id)) {
                    return true;
                }
            }
            return false;
        }

        private boolean isQuiet(int id, int without) {
            for (int other : alerts.keySet()) {
                boolean isGreater = rules.get(other / 100)[7] > rules.get(id / 100)[7];
                boolean isThere = placeOf(other) == placeOf(id) || placeOf(other) == -1;
                if (isGreater && isThere && alerts.get(other)[0] == 1 && !isHushed(other, without)) {
                    return true;
                }
            }
            return false;
        }

        private TreeSet<Integer> loud(int without) {
            TreeSet<Integer> found = new TreeSet<>();
            for (int id : alerts.keySet()) {
                if (alerts.get(id)[0] == 1 && !isHushed(id, without) && !isQuiet(id, without)) {
                    found.add(id);
                }
            }
            return found;
        }

        private int many(int what) {
            int burning = (int) alerts.values().stream().filter(a -> a[0] == 1).count();
            return new int[] {
                series.size(), rules.size(), hushes.size(), alerts.size(), burning, loud(-1).size(), notices.size(),
            }[what];
        }

        private int now(int s, int what) {
            if (what == 1) {
                return Math.min(13, samples.get(s).size());
            }
            return what == 0 ? sum(counts.get(s)) : series.get(s)[0] == 2 ? counts.get(s)[what - 2] : 0;
        }

        private int alert(int rule, int key, int what) {
            int id = rule * 100 + key;
            int[] alert = in(key, 0, 99) ? alerts.get(id) : null;
            if (what == 0) {
                return alert == null ? 0 : 1 + alert[0];
            }
            if (what == 1) {
                return alert == null ? -1 : alert[1];
            }
            return alert == null || alert[0] == 0 ? 1 : isHushed(id, -1) ? 2 : isQuiet(id, -1) ? 3 : 0;
        }

        private int alertAt(int place, int what) {
            int id = new ArrayList<>(alerts.keySet()).get(place);
            return what == 0 ? id / 100 : what == 1 ? id % 100 : placeOf(id);
        }

        private int ofHush(int h, int what) {
            return what < 3 ? hushes.get(h)[what] : (int) alerts.keySet().stream().filter(id -> covers(hushes.get(h), id)).count();
        }

        private int burningIn(int ticks) {
            Plain p = copy();
            for (int i = 0; i < ticks; i++) {
                p.tick();
            }
            return p.many(4);
        }

        private int beyond(int rule, int limit) {
            boolean isAbove = rules.get(rule)[5] == 1;
            return (int) stands(rules.get(rule)).values().stream().filter(v -> isAbove ? v > limit : v < limit).count();
        }

        private int calm(int rule) {
            List<Integer> sorted = new ArrayList<>(new TreeSet<>(stands(rules.get(rule)).values()));
            return sorted.isEmpty() ? 0 : sorted.get(rules.get(rule)[5] == 1 ? sorted.size() - 1 : 0);
        }

        private long digest() {
            List<Integer> all = new ArrayList<>();
            all.add(clock);
            for (int what = 0; what <= 6; what++) {
                all.add(many(what));
            }
            for (int s = 0; s < series.size(); s++) {
                for (int what = 0; what <= 6; what++) {
                    all.add(now(s, what));
                }
                all.add(sample(s, 0));
                all.add(sample(s, 1));
                for (int look = 0; look <= 8; look++) {
                    all.add(look(s, look, 5));
                }
            }
            for (int rule = 0; rule < rules.size(); rule++) {
                all.add(calm(rule));
                all.add(beyond(rule, rules.get(rule)[4]));
            }
            for (int place = 0; place < alerts.size(); place++) {
                for (int what = 0; what <= 2; what++) {
                    all.add(alertAt(place, what));
                }
                for (int what = 0; what <= 2; what++) {
                    all.add(alert(alertAt(place, 0), alertAt(place, 1), what));
                }
            }
            for (int h = 0; h < hushes.size(); h++) {
                for (int what = 0; what <= 3; what++) {
                    all.add(ofHush(h, what));
                }
                all.add(loud(h).size());
            }
            for (int back = 0; back < Math.min(30, notices.size()); back++) {
                for (int what = 0; what <= 3; what++) {
                    all.add(notices.get(notices.size() - 1 - back)[what]);
                }
            }
            long d = 58073;
            for (int v : all) {
                d = d * 31 + v;
            }
            return d;
        }
    }
}

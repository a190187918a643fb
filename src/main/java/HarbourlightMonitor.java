import java.util.ArrayList;

/**
 * An engine that watches: SERIES are told and grow as time goes by, RULES look at them, ALERTS come of that, and
 * NOTICES of the ALERTS go out by GROUPS. Words in capitals are those of the document.
 */
public final class HarbourlightMonitor {
    private static final int NONE = -1;

    private static final int COUNTER = 0;
    private static final int GAUGE = 1;
    private static final int HISTOGRAM = 2;

    private static final int LAST = 0;
    private static final int GROWTH = 1;
    private static final int MEAN = 2;
    private static final int MOST = 3;
    private static final int LEAST = 4;
    private static final int FIRST_PART = 5;
    private static final int LAST_LOOK = 8;
    private static final int[] PARTS = {50, 75, 90, 99};

    private static final int WAY_SERIES = 0;
    private static final int WAY_PLACES = 1;
    private static final int WAY_TOGETHER = 2;

    private static final int ABSENT = 0;
    private static final int PENDING = 1;
    private static final int BURNING = 2;

    private static final int LOUD = 0;
    private static final int NOT_BURNING = 1;
    private static final int HUSHED = 2;
    private static final int QUIET = 3;

    private static final int GROUP_ALL = 0;
    private static final int GROUP_RULES = 1;
    private static final int GROUP_PLACES = 2;
    private static final int GROUP_OF_NO_PLACE = 6;
    private static final int GROUPS = 7;

    private static final int MOST_SERIES = 12;
    private static final int MOST_RULES = 6;
    private static final int MOST_HUSHES = 5;
    private static final int KEYS = 12;
    private static final int LAST_METRIC = 5;
    private static final int LAST_PLACE = 5;
    private static final int MOST_TICKS = 10;
    private static final int MOST_HUSH_TICKS = 60;
    private static final int MOST_W = 12;
    private static final int MOST_LIMIT = 10000;
    private static final int MOST_WAIT = 20;
    private static final int MOST_RANK = 3;
    private static final int MOST_NUMBER = 1000;
    private static final int LEAST_REPEAT = 5;
    private static final int MOST_REPEAT = 50;
    private static final int FIRST_REPEAT = 10;

    private static final int SAMPLES_KEPT = 13;
    private static final int NOTICES_KEPT = 30;
    private static final int NOTICE_FACTS = 4;
    private static final int TICKS_TILL_GONE = 3;
    private static final int TICKS_TILL_CHANGE_IS_TOLD = 3;

    /** A SERIES and its SAMPLES are rows of columns: the VALUE, then the five COUNTS. */
    private static final int VALUE = 0;
    private static final int FIRST_COUNT = 1;
    private static final int LAST_COUNT = 5;
    private static final int COLUMNS = 6;
    /** The COUNT of column c is of values above EDGES[c - 1] and up to EDGES[c]; the last COUNT is above all. */
    private static final int[] EDGES = {0, 10, 50, 100, 500};
    private static final int TOP_EDGE = 500;

    private static final long DIGEST_START = 58073L;
    private static final int DIGEST_W = 5;

    private final ArrayList<Series> seriesList;
    private final ArrayList<Rule> ruleList;
    private final ArrayList<Hush> hushList;
    private final Group[] groups;
    private final NoticeLog log;
    /** Stands in for an ALERT while burningIn() lets TICKS go by, so that no real one changes. */
    private final Alert rehearsed;
    private int clockNow;
    private int grouping;
    private int repeat;

    public HarbourlightMonitor() {
        seriesList = new ArrayList<Series>();
        ruleList = new ArrayList<Rule>();
        hushList = new ArrayList<Hush>();
        groups = new Group[GROUPS];
        for (int g = 0; g < GROUPS; g++) {
            groups[g] = new Group();
        }
        log = new NoticeLog();
        rehearsed = new Alert();
        clockNow = 0;
        grouping = GROUP_ALL;
        repeat = FIRST_REPEAT;
    }

    // ---- what is told

    public int series(int kind, int metric, int place) throws IllegalArgumentException, IllegalStateException {
        if (isOutside(kind, COUNTER, HISTOGRAM)) {
            throw new IllegalArgumentException("kind is not 0 to 2");
        }
        requireMetric(metric);
        if (isOutside(place, 0, LAST_PLACE)) {
            throw new IllegalArgumentException("place is not 0 to 5");
        }
        int number = seriesList.size();
        if (number >= MOST_SERIES) {
            throw new IllegalStateException("there are 12 SERIES");
        }
        seriesList.add(new Series(number, kind, metric, place));
        return number;
    }

    public int tell(int series, int number) throws IndexOutOfBoundsException, IllegalArgumentException {
        Series told = requireSeries(series);
        int least = told.kind == GAUGE ? -MOST_NUMBER : 0;
        if (isOutside(number, least, MOST_NUMBER)) {
            throw new IllegalArgumentException("number is not 0 to 1000, or of a GAUGE -1000 to 1000");
        }
        told.take(number);
        return told.present[VALUE];
    }

    public int reset(int series) throws IndexOutOfBoundsException {
        Series begun = requireSeries(series);
        int before = begun.present[VALUE];
        begun.beginAnew();
        return before;
    }

    public int rule(int metric, int look, int w, int way, int limit, boolean isAbove)
            throws IllegalArgumentException, IllegalStateException {
        requireMetric(metric);
        requireLook(look);
        requireW(w);
        if (isOutside(way, WAY_SERIES, WAY_TOGETHER)) {
            throw new IllegalArgumentException("way is not 0 to 2");
        }
        requireLimit(limit);
        int number = ruleList.size();
        if (number >= MOST_RULES) {
            throw new IllegalStateException("there are 6 RULES");
        }
        Rule added = new Rule(number, metric, look, w, way);
        added.limit = limit;
        added.isAbove = isAbove;
        ruleList.add(added);
        return number;
    }

    public int setRule(int rule, int limit, int wait, int rank)
            throws IndexOutOfBoundsException, IllegalArgumentException {
        Rule changed = requireRule(rule);
        requireLimit(limit);
        if (isOutside(wait, 0, MOST_WAIT)) {
            throw new IllegalArgumentException("wait is not 0 to 20");
        }
        if (isOutside(rank, 0, MOST_RANK)) {
            throw new IllegalArgumentException("rank is not 0 to 3");
        }
        int before = changed.limit;
        changed.limit = limit;
        changed.wait = wait;
        changed.rank = rank;
        return before;
    }

    public int dropRule() throws IllegalStateException {
        int last = ruleList.size() - 1;
        if (last < 0) {
            throw new IllegalStateException("there is no RULE");
        }
        ruleList.remove(last);
        dropHushesOf(last);
        return last;
    }

    public int hush(int rule, int place, int ticks)
            throws IndexOutOfBoundsException, IllegalArgumentException, IllegalStateException {
        if (rule != NONE) {
            requireRule(rule);
        }
        if (isOutside(place, NONE, LAST_PLACE)) {
            throw new IllegalArgumentException("place is not -1 to 5");
        }
        if (isOutside(ticks, 1, MOST_HUSH_TICKS)) {
            throw new IllegalArgumentException("ticks is not 1 to 60");
        }
        int number = hushList.size();
        if (number >= MOST_HUSHES) {
            throw new IllegalStateException("there are 5 HUSHES");
        }
        hushList.add(new Hush(rule, place, clockNow + ticks));
        return number;
    }

    public int unhush(int hush) throws IndexOutOfBoundsException {
        requireHush(hush);
        hushList.remove(hush);
        return hushList.size();
    }

    public int group(int grouping, int repeat) throws IllegalArgumentException {
        if (isOutside(grouping, GROUP_ALL, GROUP_PLACES)) {
            throw new IllegalArgumentException("grouping is not 0 to 2");
        }
        if (isOutside(repeat, LEAST_REPEAT, MOST_REPEAT)) {
            throw new IllegalArgumentException("repeat is not 5 to 50");
        }
        int before = this.grouping;
        this.repeat = repeat;
        if (grouping != before) {
            this.grouping = grouping;
            forgetGroups();
        }
        return before;
    }

    public int tick(int ticks) throws IllegalArgumentException {
        requireTicks(ticks);
        int sent = 0;
        for (int t = 0; t < ticks; t++) {
            clockNow++;
            for (int s = 0; s < seriesList.size(); s++) {
                seriesList.get(s).keepSample();
            }
            for (int r = 0; r < ruleList.size(); r++) {
                stepAlerts(ruleList.get(r));
            }
            sent += sendNotices();
        }
        return sent;
    }

    public int clock() {
        return clockNow;
    }

    // ---- what was

    public int many(int what) throws IllegalArgumentException {
        switch (what) {
            case 0:
                return seriesList.size();
            case 1:
                return ruleList.size();
            case 2:
                return hushList.size();
            case 3:
                return countAlerts(PENDING);
            case 4:
                return countAlerts(BURNING);
            case 5:
                return countLoud(NONE);
            case 6:
                return log.ever;
            default:
                throw new IllegalArgumentException("what is not 0 to 6");
        }
    }

    public int now(int series, int what) throws IndexOutOfBoundsException, IllegalArgumentException {
        Series asked = requireSeries(series);
        if (isOutside(what, 0, 6)) {
            throw new IllegalArgumentException("what is not 0 to 6");
        }
        if (what == 0) {
            return asked.present[VALUE];
        }
        return what == 1 ? asked.held : asked.present[what - 2 + FIRST_COUNT];
    }

    public int sample(int series, int back) throws IndexOutOfBoundsException, IllegalArgumentException {
        Series asked = requireSeries(series);
        if (back < 0) {
            throw new IllegalArgumentException("back is below 0");
        }
        return asked.past(VALUE, back, 0);
    }

    public int look(int series, int look, int w) throws IndexOutOfBoundsException, IllegalArgumentException {
        Series asked = requireSeries(series);
        requireLook(look);
        requireW(w);
        return asked.lookOver(look, w, 0);
    }

    public double growth(int metric, int w) throws IllegalArgumentException {
        requireMetric(metric);
        requireW(w);
        int sum = 0;
        int grown = 0;
        for (int s = 0; s < seriesList.size(); s++) {
            Series one = seriesList.get(s);
            if (one.metric == metric) {
                sum += one.growthOf(VALUE, w, 0);
                grown++;
            }
        }
        return grown > 0 ? (double) sum / (double) grown : 0.0;
    }

    // ---- rules, alerts, notices

    public int stands(int rule, int key) throws IndexOutOfBoundsException {
        return lookedAt(requireRule(rule), key, 0);
    }

    public int alert(int rule, int key, int what) throws IndexOutOfBoundsException, IllegalArgumentException {
        Rule asked = requireRule(rule);
        if (isOutside(what, 0, 2)) {
            throw new IllegalArgumentException("what is not 0 to 2");
        }
        Alert found = asked.alertOf(key);
        if (found == null) {
            return what == 0 ? ABSENT : what == 1 ? NONE : NOT_BURNING;
        }
        switch (what) {
            case 0:
                return found.state;
            case 1:
                return found.since;
            default:
                return hearing(asked, key, NONE);
        }
    }

    public int alertAt(int place, int what) throws IndexOutOfBoundsException, IllegalArgumentException {
        Rule found = null;
        int key = NONE;
        int ahead = 0;
        for (int r = 0; r < ruleList.size() && found == null; r++) {
            Rule one = ruleList.get(r);
            key = one.keyOfAlert(place - ahead);
            found = key == NONE ? null : one;
            ahead += one.countAlertsFrom(PENDING);
        }
        if (found == null) {
            throw new IndexOutOfBoundsException("there is no such ALERT");
        }
        switch (what) {
            case 0:
                return found.number;
            case 1:
                return key;
            case 2:
                return placeOf(found, key);
            default:
                throw new IllegalArgumentException("what is not 0 to 2");
        }
    }

    public int ofHush(int hush, int what) throws IndexOutOfBoundsException, IllegalArgumentException {
        Hush asked = requireHush(hush);
        switch (what) {
            case 0:
                return asked.rule;
            case 1:
                return asked.place;
            case 2:
                return asked.till;
            case 3:
                return countCovered(asked);
            default:
                throw new IllegalArgumentException("what is not 0 to 3");
        }
    }

    public int notice(int back, int what) throws IndexOutOfBoundsException, IllegalArgumentException {
        if (isOutside(back, 0, log.held - 1)) {
            throw new IndexOutOfBoundsException("there is no such NOTICE");
        }
        if (isOutside(what, 0, NOTICE_FACTS - 1)) {
            throw new IllegalArgumentException("what is not 0 to 3");
        }
        return log.factOf(back, what);
    }

    // ---- what would be (nothing is changed)

    public int burningIn(int ticks) throws IllegalArgumentException {
        requireTicks(ticks);
        int burning = 0;
        for (int r = 0; r < ruleList.size(); r++) {
            Rule one = ruleList.get(r);
            for (int key = 0; key < KEYS; key++) {
                if (wouldBurn(one, key, ticks)) {
                    burning++;
                }
            }
        }
        return burning;
    }

    public int beyond(int rule, int limit) throws IndexOutOfBoundsException, IllegalArgumentException {
        Rule asked = requireRule(rule);
        requireLimit(limit);
        int found = 0;
        for (int key = 0; key < KEYS; key++) {
            if (hasKey(asked, key) && asked.isBeyond(lookedAt(asked, key, 0), limit)) {
                found++;
            }
        }
        return found;
    }

    public int calm(int rule) throws IndexOutOfBoundsException {
        Rule asked = requireRule(rule);
        boolean isFirst = true;
        int utmost = 0;
        for (int key = 0; key < KEYS; key++) {
            if (hasKey(asked, key)) {
                int standing = lookedAt(asked, key, 0);
                if (isFirst || asked.isBeyond(standing, utmost)) {
                    utmost = standing;
                }
                isFirst = false;
            }
        }
        return utmost;
    }

    public int loudWithout(int hush) throws IndexOutOfBoundsException {
        requireHush(hush);
        return countLoud(hush);
    }

    public long digest() {
        long d = mix(DIGEST_START, clock());
        for (int what = 0; what <= 6; what++) {
            d = mix(d, many(what));
        }
        for (int s = 0; s < seriesList.size(); s++) {
            d = mixSeries(d, s);
        }
        for (int r = 0; r < ruleList.size(); r++) {
            d = mix(d, calm(r));
            d = mix(d, beyond(r, ruleList.get(r).limit));
        }
        int alerts = many(3);
        for (int place = 0; place < alerts; place++) {
            d = mixAlert(d, place);
        }
        for (int h = 0; h < hushList.size(); h++) {
            d = mixHush(d, h);
        }
        return mixNotices(d);
    }

    private static long mix(long d, int v) {
        return d * 31 + v;
    }

    private long mixSeries(long start, int series) {
        long d = start;
        for (int what = 0; what <= 6; what++) {
            d = mix(d, now(series, what));
        }
        d = mix(d, sample(series, 0));
        d = mix(d, sample(series, 1));
        for (int look = LAST; look <= LAST_LOOK; look++) {
            d = mix(d, look(series, look, DIGEST_W));
        }
        return d;
    }

    private long mixAlert(long start, int place) {
        long d = start;
        for (int what = 0; what <= 2; what++) {
            d = mix(d, alertAt(place, what));
        }
        int rule = alertAt(place, 0);
        int key = alertAt(place, 1);
        for (int what = 0; what <= 2; what++) {
            d = mix(d, alert(rule, key, what));
        }
        return d;
    }

    private long mixHush(long start, int hush) {
        long d = start;
        for (int what = 0; what <= 3; what++) {
            d = mix(d, ofHush(hush, what));
        }
        return mix(d, countLoud(hush));
    }

    private long mixNotices(long start) {
        long d = start;
        for (int back = 0; back < log.held; back++) {
            for (int what = 0; what < NOTICE_FACTS; what++) {
                d = mix(d, notice(back, what));
            }
        }
        return d;
    }

    private static boolean isOutside(int number, int least, int most) {
        return number < least || number > most;
    }

    private static void requireMetric(int metric) {
        if (isOutside(metric, 0, LAST_METRIC)) {
            throw new IllegalArgumentException("metric is not 0 to 5");
        }
    }

    private static void requireLook(int look) {
        if (isOutside(look, LAST, LAST_LOOK)) {
            throw new IllegalArgumentException("look is not 0 to 8");
        }
    }

    private static void requireW(int w) {
        if (isOutside(w, 1, MOST_W)) {
            throw new IllegalArgumentException("w is not 1 to 12");
        }
    }

    private static void requireLimit(int limit) {
        if (isOutside(limit, -MOST_LIMIT, MOST_LIMIT)) {
            throw new IllegalArgumentException("limit is not -10000 to 10000");
        }
    }

    private static void requireTicks(int ticks) {
        if (isOutside(ticks, 1, MOST_TICKS)) {
            throw new IllegalArgumentException("ticks is not 1 to 10");
        }
    }

    private Series requireSeries(int number) {
        if (isOutside(number, 0, seriesList.size() - 1)) {
            throw new IndexOutOfBoundsException("there is no such SERIES");
        }
        return seriesList.get(number);
    }

    private Rule requireRule(int number) {
        if (isOutside(number, 0, ruleList.size() - 1)) {
            throw new IndexOutOfBoundsException("there is no such RULE");
        }
        return ruleList.get(number);
    }

    private Hush requireHush(int number) {
        if (isOutside(number, 0, hushList.size() - 1)) {
            throw new IndexOutOfBoundsException("there is no such HUSH");
        }
        return hushList.get(number);
    }

    private boolean hasKey(Rule rule, int key) {
        for (int s = 0; s < seriesList.size(); s++) {
            if (rule.takes(seriesList.get(s), key)) {
                return true;
            }
        }
        return false;
    }

    /** What the RULE would look at if {@code ahead} more TICKS had gone by with all SERIES as they are. */
    private int lookedAt(Rule rule, int key, int ahead) {
        int sum = 0;
        for (int s = 0; s < seriesList.size(); s++) {
            Series one = seriesList.get(s);
            if (rule.takes(one, key)) {
                sum += one.lookOver(rule.look, rule.w, ahead);
            }
        }
        return sum;
    }

    private int placeOf(Rule rule, int key) {
        switch (rule.way) {
            case WAY_SERIES:
                return isOutside(key, 0, seriesList.size() - 1) ? NONE : seriesList.get(key).place;
            case WAY_PLACES:
                return key;
            default:
                return NONE;
        }
    }

    private void stepAlerts(Rule rule) {
        for (int key = 0; key < KEYS; key++) {
            Alert one = rule.alertOf(key);
            if (one != null && hasKey(rule, key)) {
                one.step(rule.isBeyond(lookedAt(rule, key, 0), rule.limit), rule.wait, clockNow);
            }
        }
    }

    private boolean wouldBurn(Rule rule, int key, int ticks) {
        Alert real = rule.alertOf(key);
        if (real == null || !hasKey(rule, key)) {
            return false;
        }
        rehearsed.become(real);
        for (int ahead = 1; ahead <= ticks; ahead++) {
            rehearsed.step(rule.isBeyond(lookedAt(rule, key, ahead), rule.limit), rule.wait, clockNow + ahead);
        }
        return rehearsed.state == BURNING;
    }

    private int countAlerts(int leastState) {
        int found = 0;
        for (int r = 0; r < ruleList.size(); r++) {
            found += ruleList.get(r).countAlertsFrom(leastState);
        }
        return found;
    }

    /** LOUD, or why nobody hears of the ALERT, as if the HUSH {@code without} were not there (NONE: all are). */
    private int hearing(Rule rule, int key, int without) {
        if (!rule.burns(key)) {
            return NOT_BURNING;
        }
        int place = placeOf(rule, key);
        if (isHushed(rule.number, place, without)) {
            return HUSHED;
        }
        return isQuiet(rule.rank, place, without) ? QUIET : LOUD;
    }

    private boolean isHushed(int rule, int place, int without) {
        for (int h = 0; h < hushList.size(); h++) {
            if (h != without && hushList.get(h).covers(rule, place, clockNow)) {
                return true;
            }
        }
        return false;
    }

    private boolean isQuiet(int rank, int place, int without) {
        for (int r = 0; r < ruleList.size(); r++) {
            Rule other = ruleList.get(r);
            for (int key = 0; key < KEYS && other.rank > rank; key++) {
                int where = placeOf(other, key);
                boolean isNear = where == place || where == NONE;
                if (isNear && other.burns(key) && !isHushed(r, where, without)) {
                    return true;
                }
            }
        }
        return false;
    }

    private int countLoud(int without) {
        int found = 0;
        for (int r = 0; r < ruleList.size(); r++) {
            Rule one = ruleList.get(r);
            for (int key = 0; key < KEYS; key++) {
                if (hearing(one, key, without) == LOUD) {
                    found++;
                }
            }
        }
        return found;
    }

    private int countCovered(Hush hush) {
        int found = 0;
        for (int r = 0; r < ruleList.size(); r++) {
            Rule one = ruleList.get(r);
            for (int key = 0; key < KEYS; key++) {
                if (one.hasAlert(key) && hush.covers(r, placeOf(one, key), clockNow)) {
                    found++;
                }
            }
        }
        return found;
    }

    private void dropHushesOf(int rule) {
        // From the end, so that those that move up have been looked at already.
        for (int h = hushList.size() - 1; h >= 0; h--) {
            if (hushList.get(h).rule == rule) {
                hushList.remove(h);
            }
        }
    }

    private void forgetGroups() {
        for (int g = 0; g < GROUPS; g++) {
            groups[g].forget();
        }
    }

    private int sendNotices() {
        gatherLoud();
        int sent = 0;
        // Each GROUP is asked, also one whose RULE was dropped: it may have told of some and owe a NOTICE of none.
        for (int g = 0; g < GROUPS; g++) {
            Group one = groups[g];
            if (one.isDue(clockNow, repeat)) {
                log.keep(clockNow, g, one.countLoudNow(), greatestRank(one));
                one.markTold(clockNow);
                sent++;
            }
            one.wasLoud = one.isLoud();
        }
        return sent;
    }

    private void gatherLoud() {
        for (int g = 0; g < GROUPS; g++) {
            groups[g].clearLoud();
        }
        for (int r = 0; r < ruleList.size(); r++) {
            Rule one = ruleList.get(r);
            for (int key = 0; key < KEYS; key++) {
                int group = groupOf(one, key);
                if (!isOutside(group, 0, GROUPS - 1) && hearing(one, key, NONE) == LOUD) {
                    groups[group].addLoud(r, key);
                }
            }
        }
    }

    private int groupOf(Rule rule, int key) {
        if (grouping == GROUP_RULES) {
            return rule.number;
        }
        if (grouping == GROUP_PLACES) {
            int place = placeOf(rule, key);
            return place == NONE ? GROUP_OF_NO_PLACE : place;
        }
        return 0;
    }

    private int greatestRank(Group group) {
        int greatest = NONE;
        for (int r = 0; r < ruleList.size(); r++) {
            if (group.hasLoudOf(r)) {
                greatest = Math.max(greatest, ruleList.get(r).rank);
            }
        }
        return greatest;
    }

    private static final class Series {
        final int number;
        final int kind;
        final int metric;
        final int place;
        final int[] present = new int[COLUMNS];
        /** The SAMPLES kept, in a ring. */
        final int[][] samples = new int[SAMPLES_KEPT][COLUMNS];
        int latest = 0;
        int held = 0;

        Series(int number, int kind, int metric, int place) {
            this.number = number;
            this.kind = kind;
            this.metric = metric;
            this.place = place;
        }

        void take(int told) {
            if (kind == GAUGE) {
                present[VALUE] = told;
            } else if (kind == COUNTER) {
                present[VALUE] += told;
            } else {
                present[columnFor(told)]++;
                present[VALUE]++;
            }
        }

        private static int columnFor(int told) {
            int column = FIRST_COUNT;
            while (column < LAST_COUNT && told > EDGES[column]) {
                column++;
            }
            return column;
        }

        void beginAnew() {
            for (int column = 0; column < COLUMNS; column++) {
                present[column] = 0;
            }
        }

        void keepSample() {
            latest = (latest + 1) % SAMPLES_KEPT;
            held = Math.min(held + 1, SAMPLES_KEPT);
            System.arraycopy(present, 0, samples[latest], 0, COLUMNS);
        }

        /** As {@code back} SAMPLES ago, if {@code ahead} more had been taken of the SERIES as it is; 0 without it. */
        int past(int column, int back, int ahead) {
            if (back < ahead) {
                return present[column];
            }
            int stored = back - ahead;
            if (stored >= held) {
                return 0;
            }
            return samples[(latest - stored + SAMPLES_KEPT) % SAMPLES_KEPT][column];
        }

        int lookOver(int look, int w, int ahead) {
            switch (look) {
                case LAST:
                    return past(VALUE, 0, ahead);
                case GROWTH:
                    return growthOf(VALUE, w, ahead);
                case MEAN:
                    return meanOver(w, ahead);
                case MOST:
                    return utmostOver(w, ahead, true);
                case LEAST:
                    return utmostOver(w, ahead, false);
                default:
                    return kind == HISTOGRAM ? partOver(PARTS[look - FIRST_PART], w, ahead) : 0;
            }
        }

        int growthOf(int column, int w, int ahead) {
            int sum = 0;
            for (int back = Math.min(w + 1, held + ahead) - 1; back > 0; back--) {
                int second = past(column, back - 1, ahead);
                int more = second - past(column, back, ahead);
                sum += more < 0 ? second : more;
            }
            return sum;
        }

        private int meanOver(int w, int ahead) {
            int taken = Math.min(w, held + ahead);
            int sum = 0;
            for (int back = 0; back < taken; back++) {
                sum += past(VALUE, back, ahead);
            }
            return taken > 0 ? sum / taken : 0;
        }

        private int utmostOver(int w, int ahead, boolean isMost) {
            int taken = Math.min(w, held + ahead);
            int utmost = past(VALUE, 0, ahead);
            for (int back = 1; back < taken; back++) {
                int value = past(VALUE, back, ahead);
                utmost = isMost ? Math.max(utmost, value) : Math.min(utmost, value);
            }
            return utmost;
        }

        private int partOver(int q, int w, int ahead) {
            int n = 0;
            for (int column = FIRST_COUNT; column <= LAST_COUNT; column++) {
                n += growthOf(column, w, ahead);
            }
            if (n == 0) {
                return 0;
            }
            int r = (q * n + 99) / 100;
            int reached = 0;
            for (int column = FIRST_COUNT; column < LAST_COUNT; column++) {
                int grown = growthOf(column, w, ahead);
                if (grown > 0 && reached + grown >= r) {
                    int low = EDGES[column - 1];
                    return low + (EDGES[column] - low) * (r - reached) / grown;
                }
                reached += grown;
            }
            return TOP_EDGE;
        }
    }

    private static final class Rule {
        final int number;
        final int metric;
        final int look;
        final int w;
        final int way;
        boolean isAbove;
        int limit;
        int wait = 0;
        int rank = 0;
        /** By KEYS; an ALERT that is not there is ABSENT. */
        final Alert[] alerts = new Alert[KEYS];

        Rule(int number, int metric, int look, int w, int way) {
            this.number = number;
            this.metric = metric;
            this.look = look;
            this.w = w;
            this.way = way;
            for (int key = 0; key < KEYS; key++) {
                alerts[key] = new Alert();
            }
        }

        boolean takes(Series one, int key) {
            if (one.metric != metric) {
                return false;
            }
            switch (way) {
                case WAY_SERIES:
                    return one.number == key;
                case WAY_PLACES:
                    return one.place == key;
                default:
                    return key == 0;
            }
        }

        boolean isBeyond(int standing, int bound) {
            return isAbove ? standing > bound : standing < bound;
        }

        Alert alertOf(int key) {
            return isOutside(key, 0, KEYS - 1) ? null : alerts[key];
        }

        boolean hasAlert(int key) {
            Alert one = alertOf(key);
            return one != null && one.state != ABSENT;
        }

        boolean burns(int key) {
            Alert one = alertOf(key);
            return one != null && one.state == BURNING;
        }

        int countAlertsFrom(int leastState) {
            int found = 0;
            for (int key = 0; key < KEYS; key++) {
                if (alerts[key].state >= leastState) {
                    found++;
                }
            }
            return found;
        }

        /** The KEY of the ALERT at a place among those of the RULE; NONE if there is none. */
        int keyOfAlert(int place) {
            int ahead = 0;
            for (int key = 0; key < KEYS; key++) {
                if (alerts[key].state != ABSENT) {
                    if (ahead == place) {
                        return key;
                    }
                    ahead++;
                }
            }
            return NONE;
        }
    }

    private static final class Alert {
        int state = ABSENT;
        int since = NONE;
        int ticksNotBeyond = 0;

        void step(boolean isBeyond, int wait, int clock) {
            if (isBeyond) {
                rise(wait, clock);
            } else {
                fall();
            }
        }

        private void rise(int wait, int clock) {
            ticksNotBeyond = 0;
            if (state == ABSENT) {
                state = PENDING;
                since = clock;
            }
            if (state == PENDING && clock - since >= wait) {
                state = BURNING;
                since = clock;
            }
        }

        private void fall() {
            ticksNotBeyond++;
            if (state != BURNING || ticksNotBeyond >= TICKS_TILL_GONE) {
                state = ABSENT;
                since = NONE;
            }
        }

        void become(Alert other) {
            state = other.state;
            since = other.since;
            ticksNotBeyond = other.ticksNotBeyond;
        }
    }

    private static final class Hush {
        final int rule;
        final int place;
        final int till;

        Hush(int rule, int place, int till) {
            this.rule = rule;
            this.place = place;
            this.till = till;
        }

        boolean covers(int ofRule, int ofPlace, int clock) {
            return clock < till && (rule == NONE || rule == ofRule) && (place == NONE || place == ofPlace);
        }
    }

    /** What a GROUP told of, and what is LOUD in it: for each RULE a number with one bit for each KEY. */
    private static final class Group {
        final int[] loud = new int[MOST_RULES];
        /** Empty without a NOTICE, too: the document treats both alike. */
        final int[] told = new int[MOST_RULES];
        int toldAt = 0;
        boolean wasLoud = false;

        void forget() {
            for (int rule = 0; rule < MOST_RULES; rule++) {
                told[rule] = 0;
            }
            wasLoud = false;
        }

        void clearLoud() {
            for (int rule = 0; rule < MOST_RULES; rule++) {
                loud[rule] = 0;
            }
        }

        void addLoud(int rule, int key) {
            if (!isOutside(rule, 0, MOST_RULES - 1)) {
                loud[rule] |= 1 << key;
            }
        }

        boolean hasLoudOf(int rule) {
            return !isOutside(rule, 0, MOST_RULES - 1) && loud[rule] != 0;
        }

        boolean isLoud() {
            return countLoudNow() > 0;
        }

        int countLoudNow() {
            int found = 0;
            for (int rule = 0; rule < MOST_RULES; rule++) {
                found += Integer.bitCount(loud[rule]);
            }
            return found;
        }

        private boolean hasTold() {
            for (int rule = 0; rule < MOST_RULES; rule++) {
                if (told[rule] != 0) {
                    return true;
                }
            }
            return false;
        }

        private boolean hasChanged() {
            for (int rule = 0; rule < MOST_RULES; rule++) {
                if (told[rule] != loud[rule]) {
                    return true;
                }
            }
            return false;
        }

        boolean isDue(int clock, int repeat) {
            if (!isLoud()) {
                return hasTold();
            }
            if (!hasTold()) {
                return wasLoud;
            }
            int passed = clock - toldAt;
            return passed >= repeat || passed >= TICKS_TILL_CHANGE_IS_TOLD && hasChanged();
        }

        void markTold(int clock) {
            toldAt = clock;
            System.arraycopy(loud, 0, told, 0, MOST_RULES);
        }
    }

    /** The NOTICES kept, in a ring. */
    private static final class NoticeLog {
        final int[][] kept = new int[NOTICES_KEPT][NOTICE_FACTS];
        int latest = 0;
        int held = 0;
        int ever = 0;

        void keep(int clock, int group, int told, int rank) {
            latest = (latest + 1) % NOTICES_KEPT;
            held = Math.min(held + 1, NOTICES_KEPT);
            ever++;
            int[] row = kept[latest];
            row[0] = clock;
            row[1] = group;
            row[2] = told;
            row[3] = rank;
        }

        int factOf(int back, int what) {
            return kept[(latest - back + NOTICES_KEPT) % NOTICES_KEPT][what];
        }
    }
}

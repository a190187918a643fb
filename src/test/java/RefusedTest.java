import java.util.function.Supplier;

/**
 * Each 'Throws' of the document: its ranges at both ends, just outside of them and far outside, its counts, which
 * exception comes first of several, and that a refused call changes nothing.
 */
public final class RefusedTest {
    private interface Ask {
        long of(HarbourlightMonitor x, int v);
    }

    private interface Step {
        long on(HarbourlightMonitor x);
    }

    private static final Class<IndexOutOfBoundsException> INDEX = IndexOutOfBoundsException.class;
    private static final Class<IllegalArgumentException> ARGUMENT = IllegalArgumentException.class;
    private static final Class<IllegalStateException> STATE = IllegalStateException.class;
    private static final Checks c = new Checks();

    public static void main(String[] args) {
        series();
        tell();
        reset();
        rule();
        setRule();
        dropRule();
        hush();
        unhush();
        group();
        tick();
        many();
        now();
        sample();
        look();
        growth();
        stands();
        alert();
        alertAt();
        ofHush();
        notice();
        burningIn();
        beyond();
        calm();
        loudWithout();
        c.quotedAllThatBegin("Throws ");
        ofNoneEachIndexIsOutside();
        theFirstNamedIsThrown();
        theFirstNamedIsThrownOfFullOnes();
        changesNothing();
        changesNothingOfFullOnes();
        changesNothingWithoutRules();
        c.end();
    }

    /** A COUNTER, a GAUGE and a HISTOGRAM, 2 RULES, 2 HUSHES, 3 ALERTS and 1 NOTICE. */
    private static HarbourlightMonitor peopled() {
        HarbourlightMonitor x = new HarbourlightMonitor();
        for (int kind = 0; kind <= 2; kind++) {
            x.series(kind, 0, kind);
        }
        x.rule(0, 0, 1, 0, 5, true);
        x.rule(0, 0, 1, 2, 5, true);
        x.hush(0, -1, 60);
        x.hush(-1, 0, 60);
        for (int s = 0; s <= 2; s++) {
            x.tell(s, 9);
        }
        x.tick(2);
        return x;
    }

    /** 12 SERIES, 6 RULES and 5 HUSHES. */
    private static HarbourlightMonitor full() {
        HarbourlightMonitor x = new HarbourlightMonitor();
        for (int s = 0; s < 12; s++) {
            x.series(s % 3, s % 2, s % 6);
        }
        for (int rule = 0; rule < 6; rule++) {
            x.rule(rule % 2, 0, 1, rule % 3, 5, true);
        }
        for (int h = 0; h < 5; h++) {
            x.hush(h, -1, 1 + h);
        }
        return x;
    }

    /** One GROUP that is LOUD from the first TICK on and tells of it with the second one, then each 5 TICKS. */
    private static HarbourlightMonitor noticed(int notices) {
        HarbourlightMonitor x = new HarbourlightMonitor();
        x.series(1, 0, 0);
        x.rule(0, 0, 1, 0, 5, true);
        x.tell(0, 6);
        x.group(0, 5);
        x.tick(2);
        for (int n = 1; n < notices; n++) {
            x.tick(5);
        }
        return x;
    }

    private static void range(String name, Class<? extends RuntimeException> due, int low, int high, Ask ask) {
        range(name, due, low, high, () -> peopled(), ask);
    }

    private static void range(
            String name, Class<? extends RuntimeException> due, int low, int high, Supplier<HarbourlightMonitor> scene, Ask ask) {
        for (int v : new int[] {low, high}) {
            HarbourlightMonitor x = scene.get();
            c.accepted(name + " " + v, () -> ask.of(x, v));
        }
        for (long v : new long[] {low - 1L, high + 1L, Integer.MIN_VALUE, Integer.MAX_VALUE}) {
            if ((v < low || v > high) && v == (int) v) {
                HarbourlightMonitor x = scene.get();
                c.refused(name + " " + v, x, due, () -> ask.of(x, (int) v));
            }
        }
    }

    private static void series() {
        c.says("Throws `IllegalArgumentException` if kind is not 0 to 2, or metric or place is not 0 to 5");
        range("kind", ARGUMENT, 0, 2, (x, v) -> x.series(v, 0, 0));
        range("metric", ARGUMENT, 0, 5, (x, v) -> x.series(0, v, 0));
        range("place", ARGUMENT, 0, 5, (x, v) -> x.series(0, 0, v));
        c.says("Throws `IllegalStateException` if there are 12");
        HarbourlightMonitor x = new HarbourlightMonitor();
        for (int s = 0; s < 11; s++) {
            x.series(0, 0, 0);
        }
        c.due("the 12th", x.series(0, 0, 0), 11);
        c.badState("the 13th", x, () -> x.series(0, 0, 0));
        c.due("there are 12", x.many(0), 12);
    }

    private static void tell() {
        c.says("Throws `IndexOutOfBoundsException` if there is no such SERIES");
        range("SERIES", INDEX, 0, 2, (x, v) -> x.tell(v, 0));
        c.says("Throws `IllegalArgumentException` if number is not 0 to 1000 (of a GAUGE -1000 to 1000)");
        range("a COUNTER", ARGUMENT, 0, 1000, (x, v) -> x.tell(0, v));
        range("a GAUGE", ARGUMENT, -1000, 1000, (x, v) -> x.tell(1, v));
        range("a HISTOGRAM", ARGUMENT, 0, 1000, (x, v) -> x.tell(2, v));
    }

    private static void reset() {
        c.says("Throws `IndexOutOfBoundsException` if there is no such SERIES");
        range("reset", INDEX, 0, 2, (x, v) -> x.reset(v));
    }

    private static void rule() {
        c.says("Throws `IllegalArgumentException` if metric is not 0 to 5, look is not 0 to 8, w is not 1 to 12, "
                + "way is not 0 to 2, or limit is not -10000 to 10000");
        range("metric", ARGUMENT, 0, 5, (x, v) -> x.rule(v, 0, 1, 0, 0, true));
        range("look", ARGUMENT, 0, 8, (x, v) -> x.rule(0, v, 1, 0, 0, true));
        range("w", ARGUMENT, 1, 12, (x, v) -> x.rule(0, 0, v, 0, 0, true));
        range("way", ARGUMENT, 0, 2, (x, v) -> x.rule(0, 0, 1, v, 0, true));
        range("limit", ARGUMENT, -10000, 10000, (x, v) -> x.rule(0, 0, 1, 0, v, true));
        range("limit, below", ARGUMENT, -10000, 10000, (x, v) -> x.rule(0, 0, 1, 0, v, false));
        c.says("Throws `IllegalStateException` if there are 6");
        HarbourlightMonitor x = new HarbourlightMonitor();
        for (int r = 0; r < 5; r++) {
            x.rule(0, 0, 1, 0, 0, true);
        }
        c.due("the 6th", x.rule(0, 0, 1, 0, 0, true), 5);
        c.badState("the 7th", x, () -> x.rule(0, 0, 1, 0, 0, true));
        c.due("there are 6", x.many(1), 6);
        x.dropRule();
        c.due("the 6th again", x.rule(0, 0, 1, 0, 0, true), 5);
    }

    private static void setRule() {
        c.says("Throws `IndexOutOfBoundsException` if there is no such RULE");
        range("setRule", INDEX, 0, 1, (x, v) -> x.setRule(v, 0, 0, 0));
        c.says("Throws `IllegalArgumentException` if limit is not -10000 to 10000, wait is not 0 to 20, "
                + "or rank is not 0 to 3");
        range("limit", ARGUMENT, -10000, 10000, (x, v) -> x.setRule(0, v, 0, 0));
        range("wait", ARGUMENT, 0, 20, (x, v) -> x.setRule(0, 0, v, 0));
        range("rank", ARGUMENT, 0, 3, (x, v) -> x.setRule(0, 0, 0, v));
    }

    private static void dropRule() {
        c.says("Throws `IllegalStateException` if there is none");
        HarbourlightMonitor x = peopled();
        c.due("the last but one", x.dropRule(), 1);
        c.due("the last one", x.dropRule(), 0);
        c.badState("none", x, () -> x.dropRule());
        HarbourlightMonitor y = new HarbourlightMonitor();
        c.badState("none yet", y, () -> y.dropRule());
    }

    private static void hush() {
        c.says("Throws `IndexOutOfBoundsException` if there is no such RULE (but NONE)");
        range("rule", INDEX, -1, 1, (x, v) -> x.hush(v, 0, 1));
        c.says("Throws `IllegalArgumentException` if place is not -1 to 5, or ticks is not 1 to 60");
        range("place", ARGUMENT, -1, 5, (x, v) -> x.hush(0, v, 1));
        range("place, of NONE", ARGUMENT, -1, 5, (x, v) -> x.hush(-1, v, 1));
        range("ticks", ARGUMENT, 1, 60, (x, v) -> x.hush(0, 0, v));
        c.says("Throws `IllegalStateException` if there are 5");
        HarbourlightMonitor x = peopled();
        c.due("the 3rd", x.hush(-1, -1, 1), 2);
        c.due("the 4th", x.hush(-1, -1, 1), 3);
        c.due("the 5th", x.hush(-1, -1, 1), 4);
        c.badState("the 6th", x, () -> x.hush(-1, -1, 1));
        x.tick(10);
        c.badState("the 6th, with some that are over", x, () -> x.hush(-1, -1, 1));
        x.unhush(0);
        c.due("the 5th again", x.hush(-1, -1, 1), 4);
    }

    private static void unhush() {
        c.says("Throws `IndexOutOfBoundsException` if there is no such one");
        range("unhush", INDEX, 0, 1, (x, v) -> x.unhush(v));
    }

    private static void group() {
        c.says("Throws `IllegalArgumentException` if grouping is not 0 to 2, or repeat is not 5 to 50");
        range("grouping", ARGUMENT, 0, 2, (x, v) -> x.group(v, 10));
        range("repeat", ARGUMENT, 5, 50, (x, v) -> x.group(0, v));
        range("repeat, of another grouping", ARGUMENT, 5, 50, (x, v) -> x.group(1, v));
    }

    private static void tick() {
        c.says("Throws `IllegalArgumentException` if ticks is not 1 to 10");
        range("tick", ARGUMENT, 1, 10, (x, v) -> x.tick(v));
    }

    private static void many() {
        c.says("Throws `IllegalArgumentException` if what is not 0 to 6");
        range("many", ARGUMENT, 0, 6, (x, v) -> x.many(v));
    }

    private static void now() {
        c.says("Throws `IndexOutOfBoundsException` if there is no such SERIES");
        range("now", INDEX, 0, 2, (x, v) -> x.now(v, 0));
        c.says("Throws `IllegalArgumentException` if what is not 0 to 6");
        range("what of a COUNTER", ARGUMENT, 0, 6, (x, v) -> x.now(0, v));
        range("what of a GAUGE", ARGUMENT, 0, 6, (x, v) -> x.now(1, v));
        range("what of a HISTOGRAM", ARGUMENT, 0, 6, (x, v) -> x.now(2, v));
    }

    private static void sample() {
        c.says("Throws `IndexOutOfBoundsException` if there is no such SERIES");
        range("sample", INDEX, 0, 2, (x, v) -> x.sample(v, 0));
        c.says("Throws `IllegalArgumentException` if back is below 0");
        range("back", ARGUMENT, 0, Integer.MAX_VALUE, (x, v) -> x.sample(0, v));
    }

    private static void look() {
        c.says("Throws `IndexOutOfBoundsException` if there is no such SERIES");
        range("SERIES", INDEX, 0, 2, (x, v) -> x.look(v, 0, 1));
        c.says("Throws `IllegalArgumentException` if look is not 0 to 8, or w is not 1 to 12");
        range("look", ARGUMENT, 0, 8, (x, v) -> x.look(0, v, 1));
        range("look of a HISTOGRAM", ARGUMENT, 0, 8, (x, v) -> x.look(2, v, 1));
        for (int look = 0; look <= 8; look++) {
            int of = look;
            range("w of LOOK " + look, ARGUMENT, 1, 12, (x, v) -> x.look(2, of, v));
        }
    }

    private static void growth() {
        c.says("Throws `IllegalArgumentException` if metric is not 0 to 5, or w is not 1 to 12");
        range("metric", ARGUMENT, 0, 5, (x, v) -> (long) x.growth(v, 1));
        range("w", ARGUMENT, 1, 12, (x, v) -> (long) x.growth(0, v));
        range("w without SERIES", ARGUMENT, 1, 12, (x, v) -> (long) x.growth(5, v));
    }

    private static void stands() {
        c.says("Throws `IndexOutOfBoundsException` if there is no such RULE");
        range("stands", INDEX, 0, 1, (x, v) -> x.stands(v, 0));
        range("stands of no KEY", INDEX, 0, 1, (x, v) -> x.stands(v, -1));
    }

    private static void alert() {
        c.says("Throws `IndexOutOfBoundsException` if there is no such RULE");
        range("alert", INDEX, 0, 1, (x, v) -> x.alert(v, 0, 0));
        c.says("Throws `IllegalArgumentException` if what is not 0 to 2");
        range("what", ARGUMENT, 0, 2, (x, v) -> x.alert(0, 0, v));
        range("what without an ALERT", ARGUMENT, 0, 2, (x, v) -> x.alert(0, 2, v));
        range("what of no KEY", ARGUMENT, 0, 2, (x, v) -> x.alert(0, -1, v));
    }

    private static void alertAt() {
        c.says("Throws `IndexOutOfBoundsException` if there is no such ALERT");
        range("alertAt", INDEX, 0, 2, (x, v) -> x.alertAt(v, 0));
        c.says("Throws `IllegalArgumentException` if what is not 0 to 2");
        range("what of the first one", ARGUMENT, 0, 2, (x, v) -> x.alertAt(0, v));
        range("what of the last one", ARGUMENT, 0, 2, (x, v) -> x.alertAt(2, v));
    }

    private static void ofHush() {
        c.says("Throws `IndexOutOfBoundsException` if there is no such one");
        range("ofHush", INDEX, 0, 1, (x, v) -> x.ofHush(v, 0));
        c.says("Throws `IllegalArgumentException` if what is not 0 to 3");
        range("what", ARGUMENT, 0, 3, (x, v) -> x.ofHush(1, v));
    }

    private static void notice() {
        c.says("Throws `IndexOutOfBoundsException` if there were not so many, or back is below 0, or above 29");
        for (int there : new int[] {1, 2, 29, 30, 31, 35}) {
            int most = Math.min(there, 30) - 1;
            range("notice, as there were " + there, INDEX, 0, most, () -> noticed(there), (x, v) -> x.notice(v, 0));
        }
        c.says("Throws `IllegalArgumentException` if what is not 0 to 3");
        range("what", ARGUMENT, 0, 3, (x, v) -> x.notice(0, v));
    }

    private static void burningIn() {
        c.says("Throws `IllegalArgumentException` if ticks is not 1 to 10");
        range("burningIn", ARGUMENT, 1, 10, (x, v) -> x.burningIn(v));
    }

    private static void beyond() {
        c.says("Throws `IndexOutOfBoundsException` if there is no such RULE");
        range("beyond", INDEX, 0, 1, (x, v) -> x.beyond(v, 0));
        c.says("Throws `IllegalArgumentException` if limit is not -10000 to 10000");
        range("limit", ARGUMENT, -10000, 10000, (x, v) -> x.beyond(0, v));
    }

    private static void calm() {
        c.says("Throws `IndexOutOfBoundsException` if there is no such RULE");
        range("calm", INDEX, 0, 1, (x, v) -> x.calm(v));
    }

    private static void loudWithout() {
        c.says("Throws `IndexOutOfBoundsException` if there is no such one");
        range("loudWithout", INDEX, 0, 1, (x, v) -> x.loudWithout(v));
    }

    private static void ofNoneEachIndexIsOutside() {
        Step[] asked = {
            x -> x.tell(0, 0), x -> x.reset(0), x -> x.setRule(0, 0, 0, 0), x -> x.hush(0, 0, 1), x -> x.unhush(0),
            x -> x.now(0, 0), x -> x.sample(0, 0), x -> x.look(0, 0, 1), x -> x.stands(0, 0), x -> x.alert(0, 0, 0),
            x -> x.alertAt(0, 0), x -> x.ofHush(0, 0), x -> x.notice(0, 0), x -> x.beyond(0, 0), x -> x.calm(0),
            x -> x.loudWithout(0),
        };
        c.says("Creates an engine without SERIES.");
        for (int i = 0; i < asked.length; i++) {
            Step one = asked[i];
            HarbourlightMonitor x = new HarbourlightMonitor();
            c.badIndex("of a new object, call " + i, x, () -> one.on(x));
            HarbourlightMonitor y = new HarbourlightMonitor();
            y.tick(10);
            c.badIndex("of one that had TICKS alone, call " + i, y, () -> one.on(y));
        }
    }

    private static void theFirstNamedIsThrown() {
        c.says("If several exceptions apply, the one that is named first is thrown.");
        Step[] indexFirst = {
            x -> x.tell(3, -1), x -> x.tell(-1, 1001), x -> x.setRule(2, 10001, 0, 0), x -> x.setRule(2, 0, 21, 0),
            x -> x.setRule(-1, 0, 0, 4), x -> x.hush(2, 6, 1), x -> x.hush(-2, 0, 0), x -> x.now(3, 7),
            x -> x.now(-1, -1), x -> x.sample(3, -1), x -> x.look(3, 9, 1), x -> x.look(-1, 0, 13),
            x -> x.alert(2, 0, 3), x -> x.alert(-1, -1, -1), x -> x.alertAt(3, 3), x -> x.alertAt(-1, -1),
            x -> x.ofHush(2, 4), x -> x.ofHush(-1, -1), x -> x.notice(1, 4), x -> x.notice(-1, -1),
            x -> x.beyond(2, 10001), x -> x.beyond(-1, -10001),
        };
        for (int i = 0; i < indexFirst.length; i++) {
            Step one = indexFirst[i];
            HarbourlightMonitor x = peopled();
            c.badIndex("call " + i, x, () -> one.on(x));
        }
    }

    private static void theFirstNamedIsThrownOfFullOnes() {
        Step[] argumentFirst = {
            x -> x.series(3, 0, 0), x -> x.series(0, -1, 0), x -> x.series(0, 0, 6), x -> x.rule(6, 0, 1, 0, 0, true),
            x -> x.rule(0, 9, 1, 0, 0, true), x -> x.rule(0, 0, 0, 0, 0, true), x -> x.rule(0, 0, 1, 3, 0, true),
            x -> x.rule(0, 0, 1, 0, 10001, true), x -> x.hush(0, 6, 1), x -> x.hush(-1, 0, 61),
        };
        for (int i = 0; i < argumentFirst.length; i++) {
            Step one = argumentFirst[i];
            HarbourlightMonitor x = full();
            c.badArgument("of a full one, call " + i, x, () -> one.on(x));
        }
        HarbourlightMonitor x = full();
        c.badIndex("a 6th HUSH, of no RULE", x, () -> x.hush(6, 0, 1));
        c.badIndex("a 6th HUSH, of no RULE, at no PLACE", x, () -> x.hush(-2, 6, 0));
    }

    /** A run whose answers show, sooner or later, all that an object holds: WAIT, RANK, REPEAT, what was told, and more. */
    private static final Step[] LIFE = {
        x -> x.series(0, 0, 0), x -> x.series(1, 0, 1), x -> x.series(2, 1, 2), x -> x.rule(0, 0, 1, 0, 5, true),
        x -> x.rule(1, 5, 3, 1, 20, true), x -> x.rule(0, 1, 2, 2, 3, false), x -> x.setRule(0, 5, 2, 1),
        x -> x.setRule(1, 20, 0, 2), x -> x.tell(0, 6), x -> x.tell(1, 9), x -> x.tick(1), x -> x.tell(2, 60),
        x -> x.tick(1), x -> x.tell(2, 70), x -> x.tick(1), x -> x.hush(0, 1, 4), x -> x.hush(2, -1, 9), x -> x.tick(1),
        x -> x.group(1, 6), x -> x.tick(1), x -> x.tick(1), x -> x.tell(1, -9), x -> x.tick(1), x -> x.unhush(0),
        x -> x.tick(1), x -> x.tick(1), x -> x.tick(1), x -> x.reset(0), x -> x.tick(1), x -> x.tell(1, 50),
        x -> x.tick(2), x -> x.dropRule(), x -> x.tick(1), x -> x.group(2, 5), x -> x.tell(0, 30), x -> x.tick(1),
        x -> x.burningIn(4), x -> x.tick(7), x -> x.notice(0, 0), x -> x.tick(10), x -> x.digest(),
    };

    /** Refused in each state that LIFE goes through. */
    private static final Step[] ALWAYS_REFUSED = {
        x -> x.series(3, 0, 0), x -> x.series(0, 6, 0), x -> x.series(0, 0, -1), x -> x.tell(12, 0), x -> x.tell(0, -1),
        x -> x.tell(1, 1001), x -> x.tell(1, -1001), x -> x.tell(2, -1), x -> x.reset(-1), x -> x.reset(3),
        x -> x.rule(6, 0, 1, 0, 0, true), x -> x.rule(0, 9, 1, 0, 0, true), x -> x.rule(0, 0, 13, 0, 0, true),
        x -> x.rule(0, 0, 1, 3, 0, true), x -> x.rule(0, 0, 1, 0, 10001, true), x -> x.setRule(6, 0, 0, 0),
        x -> x.setRule(0, 10001, 9, 3), x -> x.setRule(0, 1, 21, 3), x -> x.setRule(0, 1, 9, 4), x -> x.setRule(1, 1, 9, -1),
        x -> x.hush(6, 0, 1), x -> x.hush(-1, 6, 1), x -> x.hush(-1, -1, 61), x -> x.hush(0, -1, 0), x -> x.unhush(5),
        x -> x.unhush(-1), x -> x.group(3, 20), x -> x.group(2, 51), x -> x.group(1, 4), x -> x.group(0, 4),
        x -> x.tick(0), x -> x.tick(11), x -> x.many(7), x -> x.now(0, 7), x -> x.now(12, 0), x -> x.sample(0, -1),
        x -> x.look(0, 9, 1), x -> x.look(0, 0, 13), x -> (long) x.growth(6, 1), x -> (long) x.growth(0, 13),
        x -> x.stands(6, 0), x -> x.alert(0, 0, 3), x -> x.alertAt(0, 3), x -> x.alertAt(99, 0), x -> x.ofHush(0, 4),
        x -> x.ofHush(5, 0), x -> x.notice(-1, 0), x -> x.notice(30, 0), x -> x.notice(0, 4), x -> x.burningIn(0),
        x -> x.burningIn(11), x -> x.beyond(0, 10001), x -> x.calm(6), x -> x.loudWithout(5),
    };

    /** The refused calls behind each step of the run: each later answer is the one of an object without them. */
    private static void twins(String name, Supplier<HarbourlightMonitor> scene, Step[] run, Step refused) {
        HarbourlightMonitor x = scene.get();
        HarbourlightMonitor y = scene.get();
        for (int i = 0; i < run.length; i++) {
            c.due(name + ", step " + i, run[i].on(x), run[i].on(y));
            boolean isRefused = false;
            try {
                refused.on(x);
            } catch (IndexOutOfBoundsException | IllegalArgumentException | IllegalStateException e) {
                isRefused = true;
            }
            c.due(name + " behind step " + i + " is refused", isRefused ? 1 : 0, 1);
            c.due(name + " behind step " + i + ": digest()", x.digest(), y.digest());
        }
    }

    private static void changesNothing() {
        c.says("A method that throws an exception changes nothing.");
        for (int i = 0; i < ALWAYS_REFUSED.length; i++) {
            twins("refused call " + i, () -> new HarbourlightMonitor(), LIFE, ALWAYS_REFUSED[i]);
        }
    }

    private static void changesNothingOfFullOnes() {
        Step[] run = {
            x -> x.tell(0, 9), x -> x.tell(1, 9), x -> x.tick(1), x -> x.tick(1), x -> x.tick(1), x -> x.tick(1),
            x -> x.tell(1, 0), x -> x.tick(2), x -> x.group(2, 5), x -> x.tick(3), x -> x.tick(10),
        };
        twins("a 13th SERIES", () -> full(), run, x -> x.series(1, 0, 0));
        twins("a 7th RULE", () -> full(), run, x -> x.rule(0, 0, 1, 0, -1, true));
        twins("a 6th HUSH", () -> full(), run, x -> x.hush(-1, -1, 9));
    }

    private static void changesNothingWithoutRules() {
        Step[] run = {
            x -> x.series(1, 0, 0), x -> x.tell(0, 9), x -> x.hush(-1, 0, 3), x -> x.tick(1), x -> x.group(1, 5),
            x -> x.tick(2), x -> x.many(2),
        };
        twins("dropRule()", () -> new HarbourlightMonitor(), run, x -> x.dropRule());
        HarbourlightMonitor x = new HarbourlightMonitor();
        c.badState("dropRule()", x, () -> x.dropRule());
        c.due("the first RULE is 0 then", x.rule(0, 0, 1, 0, 0, true), 0);
    }
}

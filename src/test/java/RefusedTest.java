import java.util.LinkedHashMap;
import java.util.Map;
import java.util.function.Consumer;
import java.util.function.ToLongFunction;
import java.util.function.UnaryOperator;

/**
 * "Refused, and nothing changes, the first of these: BAD (a number is not as told, or there is no
 * such thing), STATE (as told), FULL." Each refused call is made on one of two objects that were
 * used alike; behind it the two must be the same in all that can be seen.
 */
public final class RefusedTest {
    private static final int LEAST = Integer.MIN_VALUE;
    private static final int GREATEST = Integer.MAX_VALUE;
    private static final Due DUE = new Due("RefusedTest");

    private final String name;
    private final Consumer<QuarterTurns> use;
    private final int ways;

    private RefusedTest(String name, Consumer<QuarterTurns> use) {
        this.name = name;
        this.use = use;
        this.ways = made().count(2);
    }

    public static void main(String[] args) {
        Map<String, Consumer<QuarterTurns>> uses = new LinkedHashMap<>();
        uses.put("new", x -> { });
        uses.put("two WAYS", x -> Due.bed(x, "s2 1;"));
        uses.put("twelve WAYS", x -> Due.bed(x, "s6 2;l11 9;b11;"));
        uses.put("used", RefusedTest::used);
        uses.put("full", RefusedTest::full);
        uses.put("worn out", RefusedTest::wornOut);
        for (Map.Entry<String, Consumer<QuarterTurns>> entry : uses.entrySet()) {
            RefusedTest test = new RefusedTest(entry.getKey(), entry.getValue());
            test.waysAndTurns();
            test.whats();
            test.setsAndRows();
            test.numbers();
            test.askingChangesNothing();
            test.nothingElseChanges();
        }
        states();
        fulls();
        badGoesAhead();
        faults();
        DUE.end();
    }

    private static void used(QuarterTurns x) {
        Due.bed(x, "s3 2;l1 4;l5 9;m30;b1;");
        x.season();
        x.keep(0);
        x.makes(3);
        x.season();
        x.stuffs(1);
        x.makes(2);
        x.hollows(0, 1, 0);
        x.hollows(3, 5, 9);
        x.rate(4, 1);
        Due.type(x, "s2 2;m7;");
    }

    private static void full(QuarterTurns x) {
        Due.bed(x, "s4 2;l3 2;m99;");
        x.keep(1);
        for (int i = 0; i < 6; i++) {
            x.season();
            x.makes(i);
        }
        x.keep(0);
        for (int i = 0; i < 5; i++) {
            x.hollows(8 * i, i, i);
        }
        Due.type(x, "l0 1;".repeat(40));
    }

    private static void wornOut(QuarterTurns x) {
        Due.bed(x, "s2 1;l0 9;m5;");
        x.season();
    }

    private QuarterTurns made() {
        QuarterTurns x = new QuarterTurns();
        use.accept(x);
        return x;
    }

    private void refused(String call, ToLongFunction<QuarterTurns> made, long due) {
        String at = name + ": " + call;
        QuarterTurns x = made();
        DUE.is(at, made.applyAsLong(x), due);
        DUE.is(at + " again", made.applyAsLong(x), due);
        DUE.holds(at + " changes nothing", Seen.of(x).equals(Seen.of(made())));
    }

    private void bad(String call, ToLongFunction<QuarterTurns> made) {
        refused(call, made, QuarterTurns.BAD);
    }

    private void waysAndTurns() {
        for (int w : new int[] {-1, ways, LEAST, GREATEST}) {
            for (int what = 0; what < 4; what++) {
                int which = what;
                bad("lie(" + w + ", " + what + ")", x -> x.lie(w, which));
            }
            bad("turned(" + w + ", 0)", x -> x.turned(w, 0));
            bad("turned(0, " + w + ")", x -> x.turned(0, w));
            bad("makes(" + w + ")", x -> x.makes(w));
            bad("stuffs(" + w + ")", x -> x.stuffs(w));
            bad("again(" + w + ")", x -> x.again(w));
            bad("lasts(" + w + ")", x -> x.lasts(w));
            bad("hollows(0, " + w + ", 0)", x -> x.hollows(0, w, 0));
            bad("odds(" + w + ", 0, 0, 0, 0)", x -> x.odds(w, 0, 0, 0, 0));
            bad("odds(0, 0, 0, " + w + ", 0)", x -> x.odds(0, 0, 0, w, 0));
            for (int kind = 0; kind < 6; kind++) {
                int which = kind;
                refused("rate(" + kind + ", " + w + ")", x -> x.rate(which, w), QuarterTurns.NO);
            }
        }
    }

    private static int[] beyond(int low, int high) {
        return new int[] {low - 1, high + 1, LEAST, GREATEST};
    }

    private void whats() {
        for (int what : beyond(0, 3)) {
            bad("lie(0, " + what + ")", x -> x.lie(0, what));
        }
        for (int what : beyond(0, 6)) {
            bad("now(" + what + ")", x -> x.now(what));
        }
        for (int what : beyond(0, 5)) {
            bad("count(" + what + ")", x -> x.count(what));
            refused("rate(" + what + ", 0)", x -> x.rate(what, 0), QuarterTurns.NO);
            refused("rate(" + what + ", -1)", x -> x.rate(what, -1), QuarterTurns.NO);
        }
        for (int what : beyond(0, 1)) {
            bad("byTurns(" + what + ")", x -> x.byTurns(what));
            bad("odds(0, 0, 0, 0, " + what + ")", x -> x.odds(0, 0, 0, 0, what));
            bad("keep(" + what + ")", x -> x.keep(what));
            bad("back(" + what + ")", x -> x.back(what));
        }
    }

    private void setsAndRows() {
        for (int set : beyond(0, (1 << ways) - 1)) {
            bad("reach(" + set + ")", x -> x.reach(set));
            bad("round(" + set + ", 0)", x -> x.round(set, 0));
            bad("round(" + set + ", " + ways + ")", x -> x.round(set, ways));
        }
        for (int k : new int[] {-1, LEAST}) {
            bad("round(0, " + k + ")", x -> x.round(0, k));
            bad("round(all, " + k + ")", x -> x.round((1 << ways) - 1, k));
        }
        for (int n : beyond(1, 4)) {
            bad("plan(" + n + ", -1)", x -> x.plan(n, -1));
            bad("plan(" + n + ", 3)", x -> x.plan(n, 3));
        }
        for (int k : beyond(-1, 3)) {
            bad("plan(1, " + k + ")", x -> x.plan(1, k));
            bad("plan(4, " + k + ")", x -> x.plan(4, k));
        }
    }

    private void numbers() {
        for (int letter : beyond(0, 255)) {
            bad("type(" + letter + ")", x -> x.type(letter));
        }
        for (int k : beyond(0, 40)) {
            bad("hollows(" + k + ", 0, 0)", x -> x.hollows(k, 0, 0));
        }
        for (int v : beyond(0, 999)) {
            bad("hollows(0, 0, " + v + ")", x -> x.hollows(0, 0, v));
        }
        for (int forgotten : beyond(0, 10)) {
            bad("odds(0, " + forgotten + ", 6, 0, 1)", x -> x.odds(0, forgotten, 6, 0, 1));
        }
        for (int n : beyond(0, 6)) {
            bad("odds(0, 5, " + n + ", 0, 1)", x -> x.odds(0, 5, n, 0, 1));
        }
    }

    /** "(As things are NOW; nothing is changed.)" */
    private void askingChangesNothing() {
        QuarterTurns x = made();
        for (int t = 0; t < ways; t++) {
            x.lie(t, 3);
            x.turned(t, t);
            x.again(t);
            x.lasts(t);
            x.reach(1 << t);
            x.round((1 << ways) - 1 - t, t);
            x.odds(t, 3, 6, t, 0);
        }
        for (int what = 0; what < 7; what++) {
            x.now(what);
            x.count(what);
            x.byTurns(what);
            x.plan(what, what - 1);
        }
        x.all();
        x.same();
        x.latest();
        x.most();
        x.which();
        x.trace();
        DUE.holds(name + ": asking changes nothing", Seen.of(x).equals(Seen.of(made())));
    }

    /** What a call changes is what the document tells of it: rate() THE TRACE alone, keep() an IMAGE alone, and so on. */
    private void nothingElseChanges() {
        UnaryOperator<String> noTrace = seen -> seen.replaceAll("trace: .*\n", "");
        UnaryOperator<String> noImages = seen -> seen.substring(0, seen.indexOf("back 0"));
        UnaryOperator<String> noText = seen -> seen.substring(0, seen.indexOf("bed:")).replaceAll("count 5: .*\n", "");
        UnaryOperator<String> noHollows = seen -> seen.replaceAll("(count 4|which): .*\n", "");
        nothingBut("THE TRACE by rate()", this::ratesAll, noTrace);
        nothingBut("an IMAGE by keep(0)", x -> x.keep(0), noImages);
        nothingBut("an IMAGE by keep(1)", x -> x.keep(1), noImages);
        nothingBut("THE TEXT by type()", x -> x.type('m'), noText);
        nothingBut("THE TEXT by clear()", QuarterTurns::clear, noText);
        nothingBut("HOLLOWS by hollows()", x -> x.hollows(2, 1, 7), noHollows);
        nothingBut("HOLLOWS by forget()", QuarterTurns::forget, noHollows);
        if (made().now(6) < 10) {
            nothingBut("what is UNDONE", RefusedTest::doneAndUndone, seen -> seen);
        }
    }

    private void ratesAll(QuarterTurns x) {
        for (int w = 0; w < ways; w++) {
            for (int kind = 0; kind < 6; kind++) {
                x.rate(kind, w);
            }
        }
    }

    private static void doneAndUndone(QuarterTurns x) {
        x.makes(1);
        x.undo();
        x.stuffs(0);
        x.undo();
        if (x.season() >= 0) {
            x.undo();
        }
    }

    private void nothingBut(String what, Consumer<QuarterTurns> call, UnaryOperator<String> rest) {
        QuarterTurns x = made();
        call.accept(x);
        DUE.holds(name + ": nothing but " + what, rest.apply(Seen.of(x)).equals(rest.apply(Seen.of(made()))));
    }

    /** STATE: season() ("it is WORN OUT, it is SEASON 999"), undo() ("none"), back() ("none was kept"). */
    private static void states() {
        RefusedTest out = new RefusedTest("worn out", RefusedTest::wornOut);
        out.refused("season()", QuarterTurns::season, QuarterTurns.STATE);
        out.refused("back(0)", x -> x.back(0), QuarterTurns.STATE);
        out.refused("back(1)", x -> x.back(1), QuarterTurns.STATE);
        RefusedTest late = new RefusedTest("SEASON 999", RefusedTest::late);
        late.refused("season()", QuarterTurns::season, QuarterTurns.STATE);
        RefusedTest fresh = new RefusedTest("new", x -> { });
        fresh.refused("undo()", QuarterTurns::undo, QuarterTurns.STATE);
        fresh.refused("back(0)", x -> x.back(0), QuarterTurns.STATE);
        RefusedTest one = new RefusedTest("one IMAGE", RefusedTest::used);
        one.refused("back(1)", x -> x.back(1), QuarterTurns.STATE);
        RefusedTest behindBack = new RefusedTest("behind back()", x -> {
            used(x);
            x.back(0);
        });
        behindBack.refused("undo()", QuarterTurns::undo, QuarterTurns.STATE);
        RefusedTest behindBed = new RefusedTest("behind bed()", x -> {
            full(x);
            x.bed();
        });
        behindBed.refused("undo()", QuarterTurns::undo, QuarterTurns.STATE);
        behindBed.refused("back(0)", x -> x.back(0), QuarterTurns.STATE);
        behindBed.refused("back(1)", x -> x.back(1), QuarterTurns.STATE);
    }

    private static void late(QuarterTurns x) {
        for (int i = 0; i < 999; i++) {
            x.season();
            x.stuffs(0);
        }
    }

    /** FULL: type() at 200 letters, hollows() at 5. */
    private static void fulls() {
        RefusedTest full = new RefusedTest("full", RefusedTest::full);
        for (int letter : new int[] {0, 32, ';', 255}) {
            full.refused("type(" + letter + ")", x -> x.type(letter), QuarterTurns.FULL);
        }
        full.refused("hollows(0, 0, 0)", x -> x.hollows(0, 0, 0), QuarterTurns.FULL);
        full.refused("hollows(40, 7, 999)", x -> x.hollows(40, 7, 999), QuarterTurns.FULL);
    }

    /** The first of BAD, STATE, FULL, where a call could be refused by two. */
    private static void badGoesAhead() {
        RefusedTest full = new RefusedTest("full", RefusedTest::full);
        full.bad("type(256), FULL too", x -> x.type(256));
        full.bad("hollows(41, 0, 0), FULL too", x -> x.hollows(41, 0, 0));
        full.bad("hollows(0, 8, 0), FULL too", x -> x.hollows(0, 8, 0));
        full.bad("hollows(0, 0, 1000), FULL too", x -> x.hollows(0, 0, 1000));
        RefusedTest fresh = new RefusedTest("new", x -> { });
        fresh.bad("back(2), none kept", x -> x.back(2));
        fresh.bad("back(-1), none kept", x -> x.back(-1));
        fresh.bad("round(all, -1)", x -> x.round(15, -1));
        fresh.bad("round(0, -1), NONE too", x -> x.round(0, -1));
        fresh.bad("plan(1, 4), beyond n too", x -> x.plan(1, 4));
        RefusedTest out = new RefusedTest("worn out", RefusedTest::wornOut);
        out.bad("lasts(2), WORN OUT too", x -> x.lasts(2));
        out.bad("plan(5, 0), WORN OUT too", x -> x.plan(5, 0));
    }

    /** "-10 less FAULT: nothing changes": the text stays, too. */
    private static void faults() {
        String[] texts = {"x", ";", "s", "s7 1;", "s2 3;", "s2 2;s2 2;", "s3 2;l6 1;", "l0 0;", "m100;", "m4;", "m5;m5;", "s3 2;b6;",
            "b0;b0;", "b00;", "s2 1;l0 9;m5;b1", "s2 1;l0 9;m5;b1;l1 8;x"};
        int[] places = {0, 0, 1, 1, 3, 5, 6, 3, 1, 1, 3, 6, 3, 1, 15, 21};
        for (int i = 0; i < texts.length; i++) {
            String text = texts[i];
            RefusedTest used = new RefusedTest("'" + text + "'", x -> {
                used(x);
                x.clear();
                Due.type(x, text);
            });
            used.refused("bed()", QuarterTurns::bed, -10 - places[i]);
        }
    }
}

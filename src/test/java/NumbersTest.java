import java.util.function.IntFunction;
import java.util.function.ToLongBiFunction;

/**
 * Every number that a call takes: one step below its bounds, at them, inside, and one step beyond.
 * Each answer is asked of an object of its own, used as used() tells.
 */
public final class NumbersTest {
    private static final int BAD = QuarterTurns.BAD;
    private static final int NONE = QuarterTurns.NONE;
    private static final int NO = QuarterTurns.NO;
    private static final int STATE = QuarterTurns.STATE;
    private static final Due DUE = new Due("NumbersTest");

    public static void main(String[] args) {
        whats();
        ways();
        turns();
        done();
        sets();
        rows();
        plans();
        hollows();
        odds();
        kinds();
        images();
        letters();
        for (int covers = 1; covers <= 2; covers++) {
            for (int steps = 2; steps <= 6; steps++) {
                lastOfEveryShape(steps, covers);
            }
        }
        DUE.end();
    }

    /** SEASON 2; it LIES in 4 (STEP 1, COVER 1), one TURN made; WORN 4 of 1, 1 of 4. */
    private static QuarterTurns used() {
        QuarterTurns x = Due.made("s3 2;l1 4;l5 9;m30;b1;");
        x.season();
        x.makes(3);
        x.season();
        x.hollows(0, 0, 0);
        Due.type(x, "m7");
        return x;
    }

    /** The answers for the numbers from one on, each asked of a new object. */
    private static void row(String call, ToLongBiFunction<QuarterTurns, Integer> made, int from, int... due) {
        for (int i = 0; i < due.length; i++) {
            DUE.is(call + " of " + (from + i), made.applyAsLong(used(), from + i), due[i]);
        }
    }

    private static void whats() {
        row("now(what)", QuarterTurns::now, -1, BAD, 2, 4, 1, 0, 4, 5, 3, BAD);
        row("count(what)", QuarterTurns::count, -1, BAD, 3, 2, 6, 30, 1, 2, BAD);
        row("lie(4, what)", (x, what) -> x.lie(4, what), -1, BAD, 1, 1, 1, 1, BAD);
        row("lie(5, what)", (x, what) -> x.lie(5, what), -1, BAD, 2, 1, 9, 0, BAD);
        row("byTurns(what)", QuarterTurns::byTurns, -1, BAD, 6, 304, BAD);
    }

    private static void ways() {
        row("lie(w, 0)", (x, w) -> x.lie(w, 0), -1, BAD, 0, 1, 2, 0, 1, 2, BAD);
        row("lie(w, 1)", (x, w) -> x.lie(w, 1), -1, BAD, 0, 0, 0, 1, 1, 1, BAD);
        row("lie(w, 2)", (x, w) -> x.lie(w, 2), -1, BAD, 1, 4, 1, 1, 1, 9, BAD);
        row("lie(w, 3)", (x, w) -> x.lie(w, 3), -1, BAD, 0, 4, 0, 0, 1, 0, BAD);
        row("turned(w, 1)", (x, w) -> x.turned(w, 1), -1, BAD, 1, 2, 0, 5, 3, 4, BAD);
        row("turned(w, 5)", (x, w) -> x.turned(w, 5), -1, BAD, 5, 3, 4, 1, 2, 0, BAD);
    }

    private static void turns() {
        row("turned(5, t)", (x, t) -> x.turned(5, t), -1, BAD, 5, 4, 3, 2, 1, 0, BAD);
        row("turned(0, t)", (x, t) -> x.turned(0, t), -1, BAD, 0, 1, 2, 3, 4, 5, BAD);
        row("again(t)", QuarterTurns::again, -1, BAD, 1, 3, 3, 2, 2, 2, BAD);
        row("lasts(t)", QuarterTurns::lasts, -1, BAD, 29, 11, 10, 13, 58, 58, BAD);
    }

    private static void done() {
        row("makes(t)", QuarterTurns::makes, -1, BAD, 4, 3, 5, 1, 0, 2, BAD);
        row("TURNS behind makes(t)", (x, t) -> {
            x.makes(t);
            return x.now(2);
        }, -1, 1, 2, 2, 2, 2, 2, 2, 1);
        row("stuffs(w)", QuarterTurns::stuffs, -1, BAD, 0, 4, 0, 0, 1, 0, BAD);
        row("WORN of all behind stuffs(w)", (x, w) -> {
            x.stuffs(w);
            return x.now(5);
        }, -1, 5, 5, 1, 5, 5, 4, 5, 5);
        row("may be UNDONE behind stuffs(w)", (x, w) -> {
            x.stuffs(w);
            return x.now(6);
        }, -1, 3, 4, 4, 4, 4, 4, 4, 3);
    }

    private static void sets() {
        row("reach(set)", QuarterTurns::reach, -1, BAD, 16, 16, 56, 56);
        row("reach(set)", QuarterTurns::reach, 62, 63, 63, BAD, BAD);
        row("round(set, 0)", (x, set) -> x.round(set, 0), -1, BAD, NONE, NONE, NONE);
        row("round(set, 0)", (x, set) -> x.round(set, 0), 62, 1, 1, BAD, BAD);
    }

    private static void rows() {
        row("round(63, k)", (x, k) -> x.round(63, k), -1, BAD, 1, 1, 3, 1, 1, 3, -5, -5);
        row("round(24, k)", (x, k) -> x.round(24, k), -1, BAD, 3, 4, 3, 4, 3, 4, -5, -5);
        row("round(7, k)", (x, k) -> x.round(7, k), -1, BAD, NONE, NONE, NONE, NONE, NONE, NONE);
    }

    private static void plans() {
        row("plan(n, -1)", (x, n) -> x.plan(n, -1), 0, BAD, 4, 4, 4, 4, BAD);
        row("plan(n, 0)", (x, n) -> x.plan(n, 0), 0, BAD, 0, 0, 0, 0, BAD);
        row("plan(n, 3)", (x, n) -> x.plan(n, 3), 0, BAD, NONE, NONE, NONE, 1, BAD);
        row("plan(1, k)", (x, k) -> x.plan(1, k), -2, BAD, 4, 0, NONE, NONE, NONE, BAD);
        row("plan(3, k)", (x, k) -> x.plan(3, k), -2, BAD, 4, 0, 0, 0, NONE, BAD);
        row("plan(4, k)", (x, k) -> x.plan(4, k), -2, BAD, 4, 0, 0, 0, 1, BAD);
    }

    private static void hollows() {
        row("hollows(k, 0, 0)", (x, k) -> x.hollows(k, 0, 0), -1, BAD, 2, 2);
        row("hollows(k, 0, 0)", (x, k) -> x.hollows(k, 0, 0), 39, 2, 2, BAD);
        row("hollows(0, w, 0)", (x, w) -> x.hollows(0, w, 0), -1, BAD, 2, 2, 2, 2, 2, 2, BAD);
        row("hollows(0, 0, v)", (x, v) -> x.hollows(0, 0, v), -1, BAD, 2, 2);
        row("hollows(0, 0, v)", (x, v) -> x.hollows(0, 0, v), 998, 2, 2, BAD);
        row("HOLLOWS behind hollows(k, 0, 0)", (x, k) -> {
            x.hollows(k, 0, 0);
            return x.count(4);
        }, 39, 2, 2, 1);
    }

    private static void odds() {
        row("odds(t, 5, 1, 4, 0)", (x, t) -> x.odds(t, 5, 1, 4, 0), -1, BAD, 1, 1, 1, 1, 1, 1, BAD);
        row("odds(t, 5, 1, 4, 1)", (x, t) -> x.odds(t, 5, 1, 4, 1), -1, BAD, 1, 2, 2, 2, 2, 2, BAD);
        row("odds(1, x, 1, 4, 0)", (x, of10) -> x.odds(1, of10, 1, 4, 0), -1, BAD, 0, 1, 1, 3, 2, 1, 3, 7, 4, 9, 1, BAD);
        row("odds(1, x, 1, 4, 1)", (x, of10) -> x.odds(1, of10, 1, 4, 1), -1, BAD, 1, 10, 5, 10, 5, 2, 5, 10, 5, 10, 1, BAD);
        row("odds(3, 5, n, 4, 0)", (x, n) -> x.odds(3, 5, n, 4, 0), -1, BAD, 1, 1, 1, 1, 1, 1, 1, BAD);
        row("odds(3, 5, n, 4, 1)", (x, n) -> x.odds(3, 5, n, 4, 1), -1, BAD, 1, 2, 2, 2, 2, 2, 2, BAD);
        row("odds(1, 1, n, 4, 0)", (x, n) -> x.odds(1, 1, n, 4, 0), -1, BAD, 1, 1, 1, 73, 2917, 7291, 273011, BAD);
        row("odds(1, 1, n, 4, 1)", (x, n) -> x.odds(1, 1, n, 4, 1), -1, BAD, 1, 10, 100, 100, 10000, 100000, 500000, BAD);
        row("odds(1, 3, 1, w, 0)", (x, w) -> x.odds(1, 3, 1, w, 0), -1, BAD, 0, 0, 0, 7, 3, 0, BAD);
        row("odds(1, 3, 1, w, 1)", (x, w) -> x.odds(1, 3, 1, w, 1), -1, BAD, 1, 1, 1, 10, 10, 1, BAD);
        row("odds(1, 3, 1, 4, what)", (x, what) -> x.odds(1, 3, 1, 4, what), -1, BAD, 3, 10, BAD);
    }

    private static void kinds() {
        row("rate(kind, 4)", (x, kind) -> x.rate(kind, 4), -1, NO, 1, 2, -1, 4, 3, 3, NO);
        row("rate(0, w)", (x, w) -> x.rate(0, w), -1, NO, 0, 4, 0, 0, 1, 0, NO);
        row("rate(2, w)", (x, w) -> x.rate(2, w), -1, NO, -1, 1, -3, -2, -1, -2, NO);
        row("rate(4, w)", (x, w) -> x.rate(4, w), -1, NO, -1, 2, -1, 1, 3, 3, NO);
        row("trace() behind rate(kind, 4)", (x, kind) -> {
            x.rate(kind, 4);
            return x.trace();
        }, -1, 0, 1, 11, 101, 1011, 10101, 100001, 0);
    }

    private static void images() {
        row("keep(image)", QuarterTurns::keep, -1, BAD, 2, 2, BAD);
        row("back(image)", QuarterTurns::back, -1, BAD, STATE, STATE, BAD);
        row("back(image) behind keep(image)", (x, image) -> {
            x.keep(image);
            return x.back(image);
        }, -1, BAD, 2, 2, BAD);
        row("back(image) behind keep(the other)", (x, image) -> {
            x.keep(1 - image);
            return x.back(image);
        }, -1, BAD, STATE, STATE, BAD);
    }

    private static void letters() {
        row("type(letter)", QuarterTurns::type, -1, BAD, 3, 3);
        row("type(letter)", QuarterTurns::type, 254, 3, 3, BAD);
        row("letters behind type(letter)", (x, letter) -> {
            x.type(letter);
            return x.count(5);
        }, 254, 3, 3, 2);
    }

    /** The last WAY, the last TURN and the greatest set that there are, of STEPS and COVERS. */
    private static void lastOfEveryShape(int steps, int covers) {
        int last = steps * covers - 1;
        String text = "s" + steps + " " + covers + ";";
        IntFunction<String> call = n -> text + " with " + n;
        DUE.is(text + " WAYS", Due.made(text).count(2), last + 1);
        for (int w = -1; w <= last + 1; w++) {
            QuarterTurns x = Due.made(text);
            boolean there = w >= 0 && w <= last;
            DUE.is("lie() " + call.apply(w), x.lie(w, 0), there ? w % steps : BAD);
            DUE.is("turned() from 0 " + call.apply(w), x.turned(0, w), there ? w : BAD);
            DUE.is("turned() by 0 " + call.apply(w), x.turned(w, 0), there ? w : BAD);
            DUE.holds("again() " + call.apply(w), there == (x.again(w) >= 1));
            DUE.holds("lasts() " + call.apply(w), there == (x.lasts(w) >= 20));
            DUE.is("odds() by " + call.apply(w), x.odds(w, 10, 6, 0, 0), there ? 1 : BAD);
            DUE.is("odds() of " + call.apply(w), x.odds(0, 5, 6, w, 1), there ? 1 : BAD);
            DUE.is("rate() " + call.apply(w), x.rate(1, w), there ? 1 : NO);
            DUE.is("hollows() " + call.apply(w), x.hollows(0, w, 0), there ? 1 : BAD);
            DUE.is("stuffs() " + call.apply(w), x.stuffs(w), there ? 0 : BAD);
            DUE.is("makes() " + call.apply(w), x.makes(w), there ? w : BAD);
        }
        int all = (1 << last + 1) - 1;
        QuarterTurns x = Due.made(text);
        DUE.is("reach() of all " + text, x.reach(all), all);
        DUE.is("reach() of none " + text, x.reach(0), 1);
        DUE.is("reach() beyond " + text, x.reach(all + 1), BAD);
        DUE.holds("round() of all " + text, x.round(all, last) > 0);
        DUE.is("round() of all, behind its last " + text, x.round(all, last + 1), -5);
        DUE.is("round() of none " + text, x.round(0, 0), NONE);
        DUE.is("round() beyond " + text, x.round(all + 1, 0), BAD);
        DUE.is("which() of no HOLLOWS " + text, x.which(), all);
    }
}

/** Promises 26 rate, 27 keep, 28 back, 30 trace. */
public final class KindsTest {
    private static final Due DUE = new Due("KindsTest");

    public static void main(String[] args) {
        rates();
        wrongRates();
        images();
        imagesKeepNothingElse();
        DUE.end();
    }

    private static void rates() {
        QuarterTurns x = Due.made("s6 2;l2 4;b2;");
        Due.seasons(x, 3);
        DUE.is("as WAY", x.rate(0, 2), 12);
        DUE.is("trace", x.trace(), 1);
        DUE.is("as END", x.rate(1, 2), 16);
        DUE.is("trace", x.trace(), 12);
        DUE.is("as SIDE", x.rate(2, 2), 9);
        DUE.is("trace", x.trace(), 113);
        DUE.is("as HEAD", x.rate(3, 2), 32);
        DUE.is("trace", x.trace(), 1124);
        DUE.is("as FOOT", x.rate(4, 2), 11);
        DUE.is("trace", x.trace(), 11225);
        DUE.is("as HOLLOW", x.rate(5, 2), 15);
        DUE.is("trace", x.trace(), 111226);
        DUE.is("SIDE may be below 0", x.rate(2, 1), -6);
        DUE.is("FOOT of 11", x.rate(4, 11), 9);
        DUE.is("END of 11", x.rate(1, 11), 1);
        DUE.is("HOLLOW of 11", x.rate(5, 11), 3);
        DUE.is("nothing changed", x.now(5), 12);
    }

    private static void wrongRates() {
        QuarterTurns x = new QuarterTurns();
        DUE.is("rate(-1, 0)", x.rate(-1, 0), QuarterTurns.NO);
        DUE.is("rate(6, 0)", x.rate(6, 0), QuarterTurns.NO);
        DUE.is("rate(0, 4)", x.rate(0, 4), QuarterTurns.NO);
        DUE.is("rate(0, -1)", x.rate(0, -1), QuarterTurns.NO);
        DUE.is("rate(5, max)", x.rate(5, Integer.MAX_VALUE), QuarterTurns.NO);
        DUE.is("refused: no trace", x.trace(), 0);
    }

    private static void images() {
        QuarterTurns x = Due.made("l0 2;");
        x.season();
        x.makes(3);
        DUE.is("keep(0)", x.keep(0), 1);
        DUE.is("keep() leaves what may be UNDONE", x.now(6), 2);
        x.season();
        x.makes(0);
        x.season();
        DUE.is("keep(1)", x.keep(1), 3);
        x.stuffs(0);
        DUE.is("back(0)", x.back(0), 1);
        DUE.is("LIES", x.now(1), 3);
        DUE.is("TURNS", x.now(2), 1);
        DUE.is("WORN of 0", x.lie(0, 3), 2);
        DUE.is("WORN of 3", x.lie(3, 3), 0);
        DUE.is("nothing can be UNDONE", x.now(6), 0);
        DUE.is("undo()", x.undo(), QuarterTurns.STATE);
        DUE.is("back(1)", x.back(1), 3);
        DUE.is("WORN of 3", x.lie(3, 3), 2);
        DUE.is("WORN of 0", x.lie(0, 3), 2);
        DUE.is("TURNS", x.now(2), 2);
        x.season();
        DUE.is("an IMAGE does not go on", x.back(1), 3);
        x.season();
        DUE.is("keep(0) again: the later", x.keep(0), 4);
        x.season();
        DUE.is("back(0)", x.back(0), 4);
        wrongImages(x);
    }

    private static void wrongImages(QuarterTurns x) {
        x.season();
        DUE.is("keep(-1)", x.keep(-1), QuarterTurns.BAD);
        DUE.is("keep(2)", x.keep(2), QuarterTurns.BAD);
        DUE.is("back(-1)", x.back(-1), QuarterTurns.BAD);
        DUE.is("back(2)", x.back(2), QuarterTurns.BAD);
        DUE.is("refused: may still be UNDONE", x.now(6), 1);
        QuarterTurns y = new QuarterTurns();
        y.season();
        y.keep(1);
        DUE.is("none was kept", y.back(0), QuarterTurns.STATE);
        DUE.is("refused: may still be UNDONE", y.now(6), 1);
    }

    private static void imagesKeepNothingElse() {
        QuarterTurns x = new QuarterTurns();
        x.hollows(0, 0, 0);
        x.keep(0);
        x.hollows(0, 0, 0);
        x.type('m');
        x.rate(0, 0);
        x.back(0);
        DUE.is("HOLLOWS", x.count(4), 2);
        DUE.is("letters", x.count(5), 1);
        DUE.is("THE TRACE", x.trace(), 1);
        x.forget();
        x.back(0);
        DUE.is("HOLLOWS", x.count(4), 0);
    }
}

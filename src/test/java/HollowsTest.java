/** Promises 22 hollows, 23 forget, 24 which, 25 odds. */
public final class HollowsTest {
    private static final Due DUE = new Due("HollowsTest");

    public static void main(String[] args) {
        told();
        whichTurns();
        seenFromNow();
        oddsOfForgetting();
        wrongOdds();
        DUE.end();
    }

    private static void told() {
        QuarterTurns x = new QuarterTurns();
        DUE.is("forget() of none", x.forget(), 0);
        DUE.is("hollows(0, 0, 0)", x.hollows(0, 0, 0), 1);
        DUE.is("hollows(40, 3, 999)", x.hollows(40, 3, 999), 2);
        DUE.is("the same again", x.hollows(40, 3, 999), 3);
        DUE.is("hollows(-1, 0, 0)", x.hollows(-1, 0, 0), QuarterTurns.BAD);
        DUE.is("hollows(41, 0, 0)", x.hollows(41, 0, 0), QuarterTurns.BAD);
        DUE.is("hollows(0, -1, 0)", x.hollows(0, -1, 0), QuarterTurns.BAD);
        DUE.is("hollows(0, 4, 0)", x.hollows(0, 4, 0), QuarterTurns.BAD);
        DUE.is("hollows(0, 0, -1)", x.hollows(0, 0, -1), QuarterTurns.BAD);
        DUE.is("hollows(0, 0, 1000)", x.hollows(0, 0, 1000), QuarterTurns.BAD);
        DUE.is("count(4)", x.count(4), 3);
        x.hollows(1, 1, 1);
        DUE.is("the fifth", x.hollows(1, 1, 1), 5);
        DUE.is("the sixth", x.hollows(1, 1, 1), QuarterTurns.FULL);
        DUE.is("BAD goes ahead of FULL", x.hollows(1, 4, 1), QuarterTurns.BAD);
        DUE.is("forget()", x.forget(), 5);
        DUE.is("count(4)", x.count(4), 0);
        DUE.is("which() of none", x.which(), 15);
        DUE.is("the first again", x.hollows(1, 1, 1), 1);
    }

    private static void whichTurns() {
        QuarterTurns x = Due.made("s6 1;l2 3;b1;m5;");
        x.season();
        x.hollows(0, 1, 1);
        DUE.is("WORN as it is", x.which(), 63);
        x.hollows(1, 2, 3);
        DUE.is("by 1 STEP", x.which(), 1 << 1);
        x.hollows(7, 2, 6);
        DUE.is("round again in 7", x.which(), 1 << 1);
        x.hollows(6, 1, 2);
        DUE.is("home in 6", x.which(), 1 << 1);
        x.hollows(12, 1, 2);
        DUE.is("not twice home in 12", x.which(), 0);
        x.forget();
        x.hollows(40, 2, 21);
        DUE.is("WORN OUT or not", x.which(), 1 << 1);
        x.forget();
        x.hollows(40, 2, 18);
        DUE.is("by 5 STEPS one less", x.which(), 1 << 5);
        x.forget();
        x.hollows(0, 1, 2);
        DUE.is("never so", x.which(), 0);
        DUE.is("nothing changed", x.now(5), 1);
        QuarterTurns y = Due.made("s6 1;l2 3;m5;b2;");
        Due.seasons(y, 2);
        DUE.is("it is WORN OUT", y.now(3), 1);
        y.hollows(40, 2, 126);
        DUE.is("it wears all the same", y.which(), 1);
    }

    private static void seenFromNow() {
        QuarterTurns x = new QuarterTurns();
        x.hollows(1, 0, 1);
        DUE.is("which()", x.which(), 1);
        x.season();
        DUE.is("NOW WORN is 1 without another", x.which(), 14);
        x.makes(2);
        x.hollows(2, 2, 2);
        DUE.is("which() in 2", x.which(), 1);
        x.keep(0);
        x.back(0);
        DUE.is("HOLLOWS stay behind back()", x.count(4), 2);
    }

    private static void fraction(QuarterTurns x, int[] ask, int upper, int lower) {
        String call = "odds(" + ask[0] + ", " + ask[1] + ", " + ask[2] + ", " + ask[3] + ", ";
        DUE.is(call + "0)", x.odds(ask[0], ask[1], ask[2], ask[3], 0), upper);
        DUE.is(call + "1)", x.odds(ask[0], ask[1], ask[2], ask[3], 1), lower);
    }

    private static void oddsOfForgetting() {
        QuarterTurns x = Due.made("s3 1;b1;");
        fraction(x, new int[] {1, 3, 1, 1}, 3, 10);
        fraction(x, new int[] {1, 3, 1, 2}, 7, 10);
        fraction(x, new int[] {1, 3, 1, 0}, 0, 1);
        fraction(x, new int[] {1, 3, 2, 2}, 21, 50);
        fraction(x, new int[] {1, 3, 2, 0}, 49, 100);
        fraction(x, new int[] {1, 3, 3, 1}, 37, 100);
        fraction(x, new int[] {1, 0, 4, 2}, 1, 1);
        fraction(x, new int[] {1, 0, 4, 1}, 0, 1);
        fraction(x, new int[] {1, 10, 6, 1}, 1, 1);
        fraction(x, new int[] {1, 10, 6, 0}, 0, 1);
        fraction(x, new int[] {1, 5, 0, 1}, 1, 1);
        fraction(x, new int[] {1, 5, 0, 2}, 0, 1);
        fraction(x, new int[] {0, 7, 6, 1}, 1, 1);
        fraction(x, new int[] {1, 5, 6, 1}, 11, 32);
        fraction(x, new int[] {1, 9, 6, 2}, 6 * 59049 + 15 * 81, 1000000);
        fraction(Due.made("s6 1;"), new int[] {1, 1, 6, 5}, 6 * 59049 / 2, 500000);
        DUE.is("nothing changed", x.now(1), 1);
    }

    private static void wrongOdds() {
        QuarterTurns x = new QuarterTurns();
        int[][] wrong = {{4, 0, 0, 0, 0}, {-1, 0, 0, 0, 0}, {0, 11, 0, 0, 0}, {0, -1, 0, 0, 0}, {0, 0, 7, 0, 0},
            {0, 0, -1, 0, 0}, {0, 0, 0, 4, 0}, {0, 0, 0, -1, 0}, {0, 0, 0, 0, 2}, {0, 0, 0, 0, -1}};
        for (int[] ask : wrong) {
            DUE.is("odds() of " + java.util.Arrays.toString(ask), x.odds(ask[0], ask[1], ask[2], ask[3], ask[4]), QuarterTurns.BAD);
        }
    }
}

/** Promises 12 again, 13 all, 14 byTurns, 15 reach, 16 round, 17 same. */
public final class TurnsTest {
    private static final Due DUE = new Due("TurnsTest");

    public static void main(String[] args) {
        agains();
        alls();
        twos();
        reached();
        rounds();
        sames();
        DUE.end();
    }

    private static void agains() {
        QuarterTurns x = Due.made("s6 2;b4;");
        int[] due = {1, 6, 3, 2, 3, 6, 2, 2, 2, 2, 2, 2};
        for (int t = 0; t < due.length; t++) {
            DUE.is("again(" + t + ")", x.again(t), due[t]);
        }
        DUE.is("again(12)", x.again(12), QuarterTurns.BAD);
        DUE.is("again(-1)", x.again(-1), QuarterTurns.BAD);
        QuarterTurns y = Due.made("s5 1;");
        DUE.is("again(4) of 5 STEPS", y.again(4), 5);
        DUE.is("again(5) of 5 STEPS", y.again(5), QuarterTurns.BAD);
    }

    private static void alls() {
        int[] oneCover = {2, 6, 10, 30, 34};
        for (int steps = 2; steps <= 6; steps++) {
            DUE.is("all() of s" + steps + " 1", Due.made("s" + steps + " 1;b1;").all(), oneCover[steps - 2]);
            DUE.is("all() of s" + steps + " 2", Due.made("s" + steps + " 2;b1;").all(), 0);
        }
    }

    private static void twos() {
        QuarterTurns x = Due.made("s2 1;");
        DUE.is("two WAYS: 0 and 1, 1 and 0", x.byTurns(0), 2);
        DUE.is("the first", x.byTurns(1), 1);
        QuarterTurns y = Due.made("s3 2;");
        DUE.is("two unlike turnings over", y.byTurns(0), 6);
        DUE.is("the first", y.byTurns(1), 304);
        QuarterTurns z = Due.made("s6 2;b7;");
        DUE.is("the first of 6, 2", z.byTurns(1), 607);
        everyShape();
        DUE.is("byTurns(2)", z.byTurns(2), QuarterTurns.BAD);
        DUE.is("byTurns(-1)", z.byTurns(-1), QuarterTurns.BAD);
    }

    private static void everyShape() {
        int[][] many = {{2, 4, 8, 16, 16}, {6, 6, 8, 20, 12}};
        int[][] first = {{1, 1, 1, 1, 1}, {102, 304, 405, 506, 607}};
        for (int covers = 1; covers <= 2; covers++) {
            for (int steps = 2; steps <= 6; steps++) {
                String shape = "s" + steps + " " + covers + ";b1;";
                QuarterTurns x = Due.made(shape);
                DUE.is("byTurns(0) of " + shape, x.byTurns(0), many[covers - 1][steps - 2]);
                DUE.is("byTurns(1) of " + shape, x.byTurns(1), first[covers - 1][steps - 2]);
            }
        }
    }

    private static void reached() {
        QuarterTurns x = Due.made("s6 2;b8;");
        DUE.is("reach(0)", x.reach(0), 1 << 8);
        DUE.is("reach(1)", x.reach(1), 1 << 8);
        DUE.is("by 2 STEPS", x.reach(1 << 2), 1 << 6 | 1 << 8 | 1 << 10);
        DUE.is("by 3 STEPS", x.reach(1 << 3), 1 << 8 | 1 << 11);
        DUE.is("over", x.reach(1 << 6), 1 << 8 | 1 << 2);
        DUE.is("by 3 STEPS and over", x.reach(1 << 3 | 1 << 6), 1 << 8 | 1 << 11 | 1 << 2 | 1 << 5);
        DUE.is("all TURNS", x.reach(4095), 4095);
        DUE.is("nothing changed", x.now(1), 8);
        DUE.is("reach(4096)", x.reach(4096), QuarterTurns.BAD);
        DUE.is("reach(-1)", x.reach(-1), QuarterTurns.BAD);
        DUE.is("reach(min)", x.reach(Integer.MIN_VALUE), QuarterTurns.BAD);
        x.makes(1);
        DUE.is("from where it LIES", x.reach(0), 1 << 7);
    }

    private static void row(QuarterTurns x, int set, int... due) {
        for (int k = 0; k < due.length; k++) {
            DUE.is("round(" + set + ", " + k + ")", x.round(set, k), due[k]);
        }
        DUE.is("round(" + set + ", " + due.length + ")", x.round(set, due.length), -5);
        DUE.is("round(" + set + ", max)", x.round(set, Integer.MAX_VALUE), -5);
    }

    private static void rounds() {
        QuarterTurns x = Due.made("s3 2;b4;");
        row(x, 63, 1, 1, 3, 1, 1, 3);
        row(x, 1 << 3 | 1 << 4, 3, 4, 3, 4, 3, 4);
        row(x, 1 << 2 | 1 << 5, 2, 2, 5, 2, 2, 5);
        DUE.is("round(0, 0)", x.round(0, 0), QuarterTurns.NONE);
        DUE.is("round(7, 0)", x.round(7, 0), QuarterTurns.NONE);
        DUE.is("round(8, 5)", x.round(8, 5), QuarterTurns.NONE);
        DUE.is("no row at all, and k beyond it", x.round(7, 6), QuarterTurns.NONE);
        DUE.is("round(64, 0)", x.round(64, 0), QuarterTurns.BAD);
        DUE.is("round(-1, 0)", x.round(-1, 0), QuarterTurns.BAD);
        DUE.is("round(63, -1)", x.round(63, -1), QuarterTurns.BAD);
        DUE.is("round(7, -1)", x.round(7, -1), QuarterTurns.BAD);
        DUE.is("nothing changed", x.now(1), 4);
        row(Due.made("s2 1;"), 3, 1, 1);
        row(Due.made("s4 1;"), 12, 3, 3, 3, 3);
        row(Due.made("s6 1;"), 48, 5, 5, 5, 5, 5, 5);
        row(Due.made("s4 2;b3;"), 52, 2, 4, 5, 4, 2, 4, 5, 4);
        int[] inReachButNoRound = {12, 13, 24, 25};
        for (int set : inReachButNoRound) {
            QuarterTurns y = Due.made("s6 1;");
            DUE.is("reach(" + set + ")", y.reach(set), 63);
            DUE.is("round(" + set + ", 0)", y.round(set, 0), QuarterTurns.NONE);
        }
    }

    private static void sames() {
        int[] twoCovers = {6, 6, 16, 15, 30};
        for (int steps = 2; steps <= 6; steps++) {
            DUE.is("same() of s" + steps + " 1", Due.made("s" + steps + " 1;b1;").same(), steps * (steps - 1) / 2);
            DUE.is("same() of s" + steps + " 2", Due.made("s" + steps + " 2;b3;").same(), twoCovers[steps - 2]);
        }
    }
}

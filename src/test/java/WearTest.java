/** Promises 18 lasts, 19 latest, 20 plan, 21 most. */
public final class WearTest {
    private static final Due DUE = new Due("WearTest");

    public static void main(String[] args) {
        lastsBy();
        latestBy();
        plans();
        planOfWornOut();
        mosts();
        wrongNumbers();
        DUE.end();
    }

    private static void lastsBy() {
        // From 0 by 1 the SEASONS lie in 1, 2, 0, 1, ..: WORN 5 of 1 is reached in its third.
        QuarterTurns x = Due.made("s3 1;l1 2;m5;");
        DUE.is("lasts(0)", x.lasts(0), 5);
        DUE.is("lasts(1)", x.lasts(1), 7);
        DUE.is("lasts(2)", x.lasts(2), 8);
        x.makes(1);
        x.season();
        x.season();
        DUE.is("WORN 4 of 1: lasts(0)", x.lasts(0), 1);
        DUE.is("WORN 4 of 1: lasts(1)", x.lasts(1), 3);
        DUE.is("nothing changed", x.now(0), 2);
        DUE.is("nothing WORN by asking", x.now(5), 4);
        x.season();
        DUE.is("it is WORN OUT", x.lasts(1), 0);
        x.makes(1);
        DUE.is("it is WORN OUT in another WAY", x.lasts(0), 0);
        QuarterTurns y = Due.made("s6 1;m99;");
        DUE.is("6 WAYS up to 99", y.lasts(1), 98 * 6 + 1);
        QuarterTurns z = Due.made("s2 2;m5;l0 9;");
        DUE.is("a TURN ahead of the first SEASON, too", z.lasts(1), 2);
        DUE.is("it never LIES in 0 by none from 3", Due.made("l0 9;m5;b3;").lasts(0), 5);
    }

    private static void latestBy() {
        DUE.is("of several the lowest", new QuarterTurns().latest(), 1);
        QuarterTurns x = Due.made("s3 1;l1 2;m5;");
        DUE.is("latest()", x.latest(), 2);
        QuarterTurns y = Due.made("s2 1;l1 9;m5;");
        DUE.is("not turned at all", y.latest(), 0);
        y.makes(1);
        y.season();
        DUE.is("WORN OUT: all last 0", y.latest(), 0);
    }

    private static void row(QuarterTurns x, int n, int much, int... due) {
        DUE.is("plan(" + n + ", -1)", x.plan(n, -1), much);
        for (int k = 0; k < 4; k++) {
            DUE.is("plan(" + n + ", " + k + ")", x.plan(n, k), k < n ? due[k] : QuarterTurns.NONE);
        }
    }

    private static void plans() {
        QuarterTurns x = Due.made("s2 2;l0 5;l1 3;l2 4;l3 9;");
        row(x, 1, 3, 1);
        row(x, 2, 4, 1, 3);
        row(x, 3, 5, 0, 1, 3);
        row(x, 4, 6, 0, 1, 0, 3);
        QuarterTurns y = Due.made("s2 1;l0 1;l1 9;");
        row(y, 4, 4, 0, 0, 0, 0);
        Due.seasons(y, 9);
        row(y, 1, 9, 1);
        row(y, 2, 10, 0, 1);
        DUE.is("nothing changed", y.now(5), 9);
        DUE.is("LIES as before", y.now(1), 0);
        row(Due.made("s6 2;"), 4, 1, 0, 1, 1, 1);
        row(Due.made("s6 2;"), 1, 1, 0);
        row(Due.made("s2 1;l0 9;l1 9;"), 4, 18, 0, 0, 1, 0);
    }

    private static void planOfWornOut() {
        QuarterTurns x = Due.made("s2 1;l0 9;l1 2;m5;");
        x.season();
        DUE.is("it is WORN OUT", x.now(3), 1);
        row(x, 4, 9, 1, 0, 0, 0);
    }

    private static void mosts() {
        QuarterTurns x = Due.made("s3 1;l0 2;l1 9;l2 4;m9;");
        DUE.is("most(): 4, 0, 2 and the one that wears it out", x.most(), 7);
        x.season();
        DUE.is("most() behind a SEASON", x.most(), 6);
        x.makes(1);
        x.season();
        DUE.is("WORN OUT", x.most(), 0);
        DUE.is("12 WAYS up to 99", Due.made("s6 2;m99;").most(), 12 * 98 + 1);
    }

    private static void wrongNumbers() {
        QuarterTurns x = new QuarterTurns();
        DUE.is("lasts(4)", x.lasts(4), QuarterTurns.BAD);
        DUE.is("lasts(-1)", x.lasts(-1), QuarterTurns.BAD);
        DUE.is("plan(0, -1)", x.plan(0, -1), QuarterTurns.BAD);
        DUE.is("plan(5, -1)", x.plan(5, -1), QuarterTurns.BAD);
        DUE.is("plan(-1, 0)", x.plan(-1, 0), QuarterTurns.BAD);
        DUE.is("plan(4, -2)", x.plan(4, -2), QuarterTurns.BAD);
        DUE.is("plan(4, 4)", x.plan(4, 4), QuarterTurns.BAD);
        DUE.is("plan(1, 4): BAD, not NONE", x.plan(1, 4), QuarterTurns.BAD);
        DUE.is("plan(max, min)", x.plan(Integer.MAX_VALUE, Integer.MIN_VALUE), QuarterTurns.BAD);
    }
}

/** Part 3 of the document where it names a bound: TURNS, wear, HOLLOWS, ODDS. */
public final class AskEdgesTest {
    private static final int NONE = QuarterTurns.NONE;
    private static final Due DUE = new Due("AskEdgesTest");

    public static void main(String[] args) {
        againOneAtLeast();
        allOrNone();
        byTurnsWithinTwice();
        byTurnsCountsWhereItLies();
        reachOfNoneAndAll();
        roundEachOnceAndHome();
        roundNotSoMany();
        sameOfTwos();
        lastsNoneOrOne();
        lastsFirstToo();
        lastsLongest();
        latestOfSeveral();
        planBeyond();
        planOfSeveral();
        planWornOutOrNot();
        mostNoneOrOne();
        mostOfAll();
        fiveHollows();
        hollowsNowAndInForty();
        hollowsOfNoneAndMost();
        whichWornOutOrNot();
        oddsSureAndNever();
        oddsOfNoSeason();
        oddsInLeastTerms();
        oddsTogetherAreOne();
        DUE.end();
    }

    private static String shape(int steps, int covers) {
        return "s" + steps + " " + covers + ";";
    }

    /** "behind how many times (1 at least) .. as if nothing were done, whatever WAY it LIES in at first" */
    private static void againOneAtLeast() {
        int[][] round = {{1, 2}, {1, 3, 3}, {1, 4, 2, 4}, {1, 5, 5, 5, 5}, {1, 6, 3, 2, 3, 6}};
        for (int steps = 2; steps <= 6; steps++) {
            for (int b = 0; b < 2 * steps; b++) {
                QuarterTurns x = Due.made(shape(steps, 2) + "b" + b + ";");
                for (int t = 0; t < 2 * steps; t++) {
                    DUE.is("again(" + t + ") of " + steps, x.again(t), t < steps ? round[steps - 2][t] : 2);
                }
            }
            QuarterTurns y = Due.made(shape(steps, 1));
            for (int t = 0; t < steps; t++) {
                DUE.is("again(" + t + ") of " + steps + ", one COVER", y.again(t), round[steps - 2][t]);
            }
        }
    }

    private static void allOrNone() {
        int[] due = {0b10, 0b110, 0b1010, 0b11110, 0b100010};
        for (int steps = 2; steps <= 6; steps++) {
            for (int b = 0; b < steps; b++) {
                DUE.is("all() of " + steps, Due.made(shape(steps, 1) + "b" + b + ";").all(), due[steps - 2]);
                DUE.is("none of two COVERS", Due.made(shape(steps, 2) + "b" + (steps + b) + ";").all(), 0);
            }
        }
    }

    /** "within twice as many TURNS as there are WAYS": 0 and 1 by turns need all of them but two. */
    private static void byTurnsWithinTwice() {
        int[] many = {2, 4, 8, 16, 16};
        for (int steps = 2; steps <= 6; steps++) {
            QuarterTurns x = Due.made(shape(steps, 1));
            DUE.is("0 and 1 of " + steps, x.byTurns(1), 1);
            DUE.is("how many of " + steps, x.byTurns(0), many[steps - 2]);
        }
    }

    private static void byTurnsCountsWhereItLies() {
        int[] first = {102, 304, 405, 506, 607};
        for (int steps = 2; steps <= 6; steps++) {
            for (int b = 0; b < 2 * steps; b++) {
                QuarterTurns x = Due.made(shape(steps, 2) + "b" + b + ";");
                DUE.is("the first of " + steps + " from " + b, x.byTurns(1), first[steps - 2]);
                DUE.holds("some, and NONE is never due", x.byTurns(0) > 0);
            }
        }
    }

    /** "WAYS (bits) it can come to by any row of these, from where it LIES": by none, too */
    private static void reachOfNoneAndAll() {
        for (int steps = 2; steps <= 6; steps++) {
            int all = (1 << 2 * steps) - 1;
            int cover = (1 << steps) - 1;
            for (int b = 0; b < 2 * steps; b++) {
                QuarterTurns x = Due.made(shape(steps, 2) + "b" + b + ";");
                DUE.is("no TURNS", x.reach(0), 1 << b);
                DUE.is("TURN 0 alone", x.reach(1), 1 << b);
                DUE.is("one STEP: its COVER", x.reach(2), b < steps ? cover : cover << steps);
                DUE.is("over", x.reach(1 << steps), 1 << b | 1 << (b + steps) % (2 * steps));
                DUE.is("the last TURN alone: two WAYS", Integer.bitCount(x.reach(1 << 2 * steps - 1)), 2);
                DUE.is("all TURNS but the last", x.reach(all >> 1), all);
                DUE.is("all TURNS", x.reach(all), all);
            }
        }
    }

    /** "as many as there are WAYS, by which it comes through all WAYS, each once, and home" */
    private static void roundEachOnceAndHome() {
        for (int covers = 1; covers <= 2; covers++) {
            for (int steps = 2; steps <= 6; steps++) {
                int ways = steps * covers;
                for (int b = 0; b < ways; b++) {
                    QuarterTurns x = Due.made(shape(steps, covers) + "b" + b + ";");
                    walk(x, (1 << ways) - 1, ways, b);
                    walk(x, (1 << ways) - 2, ways, b);
                }
            }
        }
    }

    private static void walk(QuarterTurns x, int set, int ways, int home) {
        int seen = 0;
        int way = home;
        for (int k = 0; k < ways; k++) {
            way = x.turned(way, x.round(set, k));
            DUE.holds("each once", way >= 0 && (seen >> way & 1) == 0);
            seen |= way >= 0 ? 1 << way : 0;
        }
        DUE.is("home", way, home);
        DUE.is("all WAYS", seen, (1 << ways) - 1);
    }

    /** "-5: not so many; NONE" */
    private static void roundNotSoMany() {
        QuarterTurns x = Due.made("s2 1;");
        DUE.is("the last", x.round(2, 1), 1);
        DUE.is("one behind it", x.round(2, 2), -5);
        DUE.is("far behind it", x.round(2, Integer.MAX_VALUE), -5);
        DUE.is("none by TURN 0", x.round(1, 0), NONE);
        QuarterTurns y = Due.made("s6 2;b11;");
        DUE.holds("the last of twelve", y.round(4095, 11) >= 0);
        DUE.is("behind the last of twelve", y.round(4095, 12), -5);
        DUE.is("no TURNS", y.round(0, 0), NONE);
        DUE.is("one COVER is not all WAYS", y.round(63, 0), NONE);
        DUE.is("none, and k behind it", y.round(63, 12), NONE);
    }

    /** "twos of TURNS (unlike, whichever first)" */
    private static void sameOfTwos() {
        int[] one = {1, 3, 6, 10, 15};
        int[] two = {6, 6, 16, 15, 30};
        for (int steps = 2; steps <= 6; steps++) {
            DUE.is("all twos of " + steps, Due.made(shape(steps, 1)).same(), one[steps - 2]);
            DUE.is("of two COVERS, " + steps, Due.made(shape(steps, 2)).same(), two[steps - 2]);
        }
    }

    /** "(0: it is)" */
    private static void lastsNoneOrOne() {
        QuarterTurns x = Due.made("s2 1;m5;l1 5;");
        DUE.is("one by the first SEASON", x.lasts(1), 1);
        DUE.is("one more than LOAD 1 below LIMIT", x.lasts(0), 5);
        Due.seasons(x, 3);
        DUE.is("two", x.lasts(0), 2);
        x.season();
        DUE.is("one", x.lasts(0), 1);
        x.season();
        DUE.is("none: it is", x.lasts(0), 0);
        DUE.is("none by any TURN", x.lasts(1), 0);
        x.stuffs(0);
        DUE.is("STUFFED", x.lasts(0), 5);
        QuarterTurns y = Due.made("s2 1;m5;l0 9;l1 4;b1;");
        DUE.is("WORN one below LIMIT is not WORN OUT", y.lasts(0), 2);
        y.season();
        DUE.is("one more", y.lasts(0), 1);
    }

    /** "made ahead of each SEASON (of the first, too)" */
    private static void lastsFirstToo() {
        QuarterTurns x = Due.made("s3 1;m5;l0 9;");
        DUE.is("by none", x.lasts(0), 1);
        DUE.is("1, 2, 0", x.lasts(1), 3);
        DUE.is("2, 1, 0", x.lasts(2), 3);
        QuarterTurns y = Due.made("s3 1;m5;l1 9;");
        DUE.is("0, 0, 0, 0, 0", y.lasts(0), 5);
        DUE.is("1", y.lasts(1), 1);
        DUE.is("2, 1", y.lasts(2), 2);
    }

    private static void lastsLongest() {
        QuarterTurns x = Due.made("s6 2;m99;");
        DUE.is("six WAYS up to 98, and one more", x.lasts(1), 6 * 98 + 1);
        DUE.is("two WAYS", x.lasts(11), 2 * 98 + 1);
        DUE.is("one WAY", x.lasts(0), 99);
        QuarterTurns y = Due.made("s2 1;m5;l0 9;l1 9;");
        DUE.is("the shortest", y.lasts(0) + y.lasts(1), 2);
    }

    /** "of several the lowest" */
    private static void latestOfSeveral() {
        QuarterTurns x = Due.made("s2 1;m5;l0 9;l1 9;");
        DUE.is("all alike", x.latest(), 0);
        DUE.is("by 1 and 5 alike", Due.made("s6 1;").latest(), 1);
        DUE.is("the last TURN alone", Due.made("s2 1;l0 2;m5;").latest(), 1);
        QuarterTurns y = Due.made("m5;l0 9;l1 9;l2 9;");
        DUE.is("the last of four alone", y.latest(), 3);
        y.makes(3);
        Due.seasons(y, 5);
        DUE.is("WORN OUT: all alike", y.latest(), 0);
    }

    /** "PLAN of n (1 .. 4)", "the k-th; NONE (beyond n)" */
    private static void planBeyond() {
        QuarterTurns x = Due.made("s4 1;");
        for (int n = 1; n <= 4; n++) {
            DUE.is("how much of " + n, x.plan(n, -1), 1);
            for (int k = 0; k <= 3; k++) {
                int due = k >= n ? NONE : k == 0 ? 0 : 1;
                DUE.is("plan(" + n + ", " + k + ")", x.plan(n, k), due);
            }
        }
        QuarterTurns y = Due.made("s3 1;");
        DUE.is("three WAYS, three SEASONS", y.plan(3, -1), 1);
        DUE.is("three WAYS, four SEASONS", y.plan(4, -1), 2);
    }

    /** "of several the first (TURN by TURN)" */
    private static void planOfSeveral() {
        QuarterTurns x = Due.made("s2 1;");
        int[] four = {0, 0, 1, 0};
        for (int k = 0; k < 4; k++) {
            DUE.is("two in each: plan(4, " + k + ")", x.plan(4, k), four[k]);
        }
        DUE.is("one in each: plan(2, 0)", x.plan(2, 0), 0);
        DUE.is("one in each: plan(2, 1)", x.plan(2, 1), 1);
        DUE.is("two in one: plan(3, 0)", x.plan(3, 0), 0);
        DUE.is("two in one: plan(3, 1)", x.plan(3, 1), 0);
        DUE.is("two in one: plan(3, 2)", x.plan(3, 2), 1);
        x.season();
        DUE.is("one is WORN: plan(1, -1)", x.plan(1, -1), 1);
        DUE.is("one is WORN: plan(1, 0)", x.plan(1, 0), 1);
        Due.seasons(x, 4);
        int[] below = {1, 0, 0, 0};
        for (int k = 0; k < 4; k++) {
            DUE.is("four below five: plan(4, " + k + ")", x.plan(4, k), below[k]);
        }
    }

    /** "(WORN OUT or not)" */
    private static void planWornOutOrNot() {
        QuarterTurns x = Due.made("s2 1;m5;l0 9;l1 9;");
        DUE.is("beyond LIMIT: plan(1, -1)", x.plan(1, -1), 9);
        DUE.is("beyond LIMIT: plan(3, -1)", x.plan(3, -1), 18);
        x.season();
        DUE.is("it is WORN OUT: plan(1, -1)", x.plan(1, -1), 9);
        DUE.is("it is WORN OUT: plan(1, 0)", x.plan(1, 0), 1);
        DUE.is("it is WORN OUT: plan(2, -1)", x.plan(2, -1), 18);
        DUE.is("it is WORN OUT: plan(2, 0)", x.plan(2, 0), 0);
        DUE.is("it is WORN OUT: plan(4, -1)", x.plan(4, -1), 27);
    }

    private static void mostNoneOrOne() {
        QuarterTurns x = Due.made("s2 1;m5;l0 5;l1 9;");
        DUE.is("one: each WAY is WORN OUT at once", x.most(), 1);
        x.season();
        DUE.is("none: it is WORN OUT", x.most(), 0);
        x.stuffs(0);
        DUE.is("STUFFED", x.most(), 1);
        DUE.is("two: one WAY can do one", Due.made("s2 1;m5;l0 4;l1 9;").most(), 2);
        DUE.is("up to one below LIMIT", Due.made("s2 1;m9;l0 4;l1 9;").most(), 3);
        DUE.is("at LIMIT it is WORN OUT", Due.made("s2 1;m8;l0 4;l1 9;").most(), 2);
    }

    private static void mostOfAll() {
        for (int covers = 1; covers <= 2; covers++) {
            for (int steps = 2; steps <= 6; steps++) {
                QuarterTurns x = Due.made(shape(steps, covers) + "m99;");
                DUE.is("most() of " + shape(steps, covers), x.most(), 98 * steps * covers + 1);
                x.season();
                DUE.is("one less", x.most(), 98 * steps * covers);
            }
        }
    }

    /** "HOLLOWS (5 at most)" */
    private static void fiveHollows() {
        QuarterTurns x = new QuarterTurns();
        DUE.is("none", x.forget(), 0);
        for (int i = 1; i <= 5; i++) {
            DUE.is("HOLLOW " + i, x.hollows(0, 0, 0), i);
            DUE.is("count(4)", x.count(4), i);
        }
        DUE.is("a sixth", x.hollows(0, 1, 0), QuarterTurns.FULL);
        DUE.is("five", x.count(4), 5);
        DUE.is("all are so", x.which(), 15);
        DUE.is("forget()", x.forget(), 5);
        DUE.is("forget() again", x.forget(), 0);
        for (int i = 1; i <= 4; i++) {
            x.hollows(0, 0, 0);
        }
        DUE.is("the fifth counts", x.hollows(0, 3, 1), 5);
        DUE.is("it is not so", x.which(), 0);
        DUE.is("a sixth", x.hollows(0, 0, 0), QuarterTurns.FULL);
        DUE.is("still not so", x.which(), 0);
        x.forget();
        DUE.is("none: all TURNS", x.which(), 15);
    }

    private static int which(String text, int k, int w, int v) {
        QuarterTurns x = Due.made(text);
        x.hollows(k, w, v);
        return x.which();
    }

    /** "in k (0 .. 40) SEASONS from NOW" */
    private static void hollowsNowAndInForty() {
        DUE.is("in 0: nothing went by", which("s2 1;", 0, 0, 0), 3);
        DUE.is("in 0: not so", which("s2 1;", 0, 0, 1), 0);
        DUE.is("in 1 by none", which("s2 1;", 1, 0, 1), 1);
        DUE.is("in 1 by 1", which("s2 1;", 1, 1, 1), 2);
        DUE.is("in 1 by 1: not here", which("s2 1;", 1, 0, 0), 2);
        DUE.is("in 39 by none", which("s2 1;", 39, 0, 39), 1);
        DUE.is("in 39 by 1: twenty there", which("s2 1;", 39, 1, 20), 2);
        DUE.is("in 39 by 1: nineteen here", which("s2 1;", 39, 0, 19), 2);
        DUE.is("in 40 by none", which("s2 1;", 40, 0, 40), 1);
        DUE.is("in 40 by 1", which("s2 1;", 40, 0, 20), 2);
        DUE.is("in 40, one more is not so", which("s2 1;", 40, 0, 41), 0);
    }

    /** "v (0 .. 999)" */
    private static void hollowsOfNoneAndMost() {
        DUE.is("none WORN", which("s2 1;", 40, 1, 0), 1);
        DUE.is("the most in 40", which("s2 1;l0 9;", 40, 0, 360), 1);
        DUE.is("999 is never so", which("s2 1;l0 9;", 40, 0, 999), 0);
        QuarterTurns x = Due.made("s2 1;l0 9;m99;");
        Due.seasons(x, 11);
        x.hollows(40, 0, 459);
        DUE.is("the most behind 99", x.which(), 1);
    }

    /** "WORN OUT or not" */
    private static void whichWornOutOrNot() {
        DUE.is("beyond LIMIT", which("s2 1;m5;", 6, 0, 6), 1);
        QuarterTurns x = Due.made("s2 1;m5;");
        Due.seasons(x, 5);
        x.hollows(1, 0, 6);
        DUE.is("it is WORN OUT, by none", x.which(), 1);
        x.forget();
        x.hollows(1, 1, 1);
        DUE.is("it is WORN OUT, by 1", x.which(), 2);
        x.hollows(0, 0, 5);
        DUE.is("and NOW", x.which(), 2);
        x.hollows(2, 0, 6);
        DUE.is("and in 2", x.which(), 2);
        x.hollows(2, 0, 7);
        DUE.is("not both", x.which(), 0);
    }

    private static void odds(QuarterTurns x, int[] ask, int upper, int lower) {
        String call = "odds(" + ask[0] + ", " + ask[1] + ", " + ask[2] + ", " + ask[3] + ")";
        DUE.is(call + " upper", x.odds(ask[0], ask[1], ask[2], ask[3], 0), upper);
        DUE.is(call + " lower", x.odds(ask[0], ask[1], ask[2], ask[3], 1), lower);
    }

    /** "forgotten by x (0 .. 10) of 10" */
    private static void oddsSureAndNever() {
        QuarterTurns x = Due.made("s6 1;");
        for (int n = 1; n <= 6; n++) {
            odds(x, new int[] {1, 0, n, n % 6}, 1, 1);
            odds(x, new int[] {1, 0, n, (n + 1) % 6}, 0, 1);
            odds(x, new int[] {1, 10, n, 0}, 1, 1);
            odds(x, new int[] {1, 10, n, n == 6 ? 1 : n}, 0, 1);
        }
        odds(x, new int[] {1, 1, 1, 0}, 1, 10);
        odds(x, new int[] {1, 1, 1, 1}, 9, 10);
        odds(x, new int[] {1, 9, 1, 0}, 9, 10);
        odds(x, new int[] {1, 9, 1, 1}, 1, 10);
    }

    /** "n (0 .. 6)" */
    private static void oddsOfNoSeason() {
        QuarterTurns x = Due.made("s6 2;b11;");
        for (int forgotten = 0; forgotten <= 10; forgotten++) {
            odds(x, new int[] {7, forgotten, 0, 11}, 1, 1);
            odds(x, new int[] {7, forgotten, 0, 0}, 0, 1);
            odds(x, new int[] {0, forgotten, 6, 11}, 1, 1);
            odds(x, new int[] {0, forgotten, 6, 10}, 0, 1);
        }
    }

    /** "in least terms" */
    private static void oddsInLeastTerms() {
        QuarterTurns x = Due.made("s6 1;");
        odds(x, new int[] {1, 1, 6, 0}, 265721, 500000);
        odds(x, new int[] {1, 5, 6, 0}, 1, 32);
        odds(x, new int[] {1, 5, 6, 3}, 5, 16);
        odds(x, new int[] {1, 5, 5, 5}, 1, 32);
        odds(x, new int[] {1, 9, 6, 5}, 27, 500000);
        odds(x, new int[] {1, 3, 5, 5}, 16807, 100000);
        odds(x, new int[] {1, 2, 6, 1}, 6 * 4, 15625);
        odds(Due.made("s5 1;"), new int[] {1, 3, 6, 2}, 11907, 200000);
        odds(Due.made("s3 1;"), new int[] {1, 3, 6, 1}, 334341, 1000000);
    }

    private static void oddsTogetherAreOne() {
        QuarterTurns x = Due.made("s6 2;b8;");
        for (int t = 0; t < 12; t++) {
            for (int forgotten = 0; forgotten <= 10; forgotten++) {
                long sum = 0;
                for (int w = 0; w < 12; w++) {
                    int lower = x.odds(t, forgotten, 6, w, 1);
                    sum += lower < 1 ? 0 : x.odds(t, forgotten, 6, w, 0) * (1000000L / lower);
                }
                DUE.is("odds by " + t + ", " + forgotten + " of all WAYS", sum, 1000000);
            }
        }
    }
}

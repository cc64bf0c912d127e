/** Parts 1, 2 and 4 of the document where they name a bound: WAYS and TURNS, WORN OUT, UNDONE, KINDS, IMAGES. */
public final class DoneEdgesTest {
    private static final int STATE = QuarterTurns.STATE;
    private static final Due DUE = new Due("DoneEdgesTest");

    public static void main(String[] args) {
        for (int steps = 2; steps <= 6; steps++) {
            stepsRoundOneCover(steps);
            stepsRoundTwoCovers(steps);
        }
        wornOutAtLimit();
        loadsThatMeetLimit();
        wornOutByAnyWay();
        noSeasonAnyMore();
        stuffedIsNone();
        lastSeason();
        turnsCounted();
        tenMayBeUndone();
        theRingComesRound();
        undoneOverBounds();
        tracesAddUp();
        ratesAtBounds();
        twoImages();
        imagesOfAllThatIsKept();
        nothingUndoneBehindBack();
        longestRun();
        DUE.end();
    }

    /** "STEP r and s together .., by what is left over of STEPS" */
    private static void stepsRoundOneCover(int steps) {
        QuarterTurns x = Due.made("s" + steps + " 1;");
        int last = steps - 1;
        DUE.is("by none", x.turned(last, 0), last);
        DUE.is("up to the last", x.turned(last - 1, 1), last);
        DUE.is("behind the last the first", x.turned(last, 1), 0);
        DUE.is("as far as it goes", x.turned(last, last), last - 1);
        DUE.is("just home", x.turned(1, last), 0);
        DUE.is("not yet round", x.turned(0, last), last);
    }

    /** "or r less s (f is 1) .., and in the other COVER, if g is 1" */
    private static void stepsRoundTwoCovers(int steps) {
        QuarterTurns x = Due.made("s" + steps + " 2;");
        int last = steps - 1;
        DUE.is("COVER 0, behind the last", x.turned(last, 1), 0);
        DUE.is("COVER 0, up to the last", x.turned(0, last), last);
        DUE.is("COVER 1, ahead of the first the last", x.turned(steps, 1), steps + last);
        DUE.is("COVER 1, down to the first", x.turned(steps + 1, 1), steps);
        DUE.is("COVER 1, by none", x.turned(steps + last, 0), steps + last);
        DUE.is("COVER 1, as far as it goes", x.turned(steps, last), steps + 1);
        DUE.is("COVER 1, from the last to the first", x.turned(steps + last, last), steps);
        DUE.is("over from 0", x.turned(0, steps), steps);
        DUE.is("over from COVER 1", x.turned(steps, steps), 0);
        DUE.is("over, behind the last", x.turned(last, steps + 1), steps);
        DUE.is("over, from the last to the last but one", x.turned(last, steps + last), steps + last - 1);
        DUE.is("over from COVER 1, ahead of the first", x.turned(steps, steps + 1), last);
        DUE.is("over from the last by the last", x.turned(steps + last, steps + last), 0);
    }

    /** "WORN OUT: WORN of some WAY is LIMIT at least" */
    private static void wornOutAtLimit() {
        for (int limit : new int[] {5, 6, 20, 98, 99}) {
            QuarterTurns x = Due.made("m" + limit + ";");
            Due.seasons(x, limit - 2);
            DUE.is("two below LIMIT " + limit, x.now(3), 0);
            DUE.is("season()", x.season(), limit - 1);
            DUE.is("one below LIMIT " + limit, x.now(3), 0);
            DUE.is("season()", x.season(), limit);
            DUE.is("at LIMIT " + limit, x.now(3), 1);
            DUE.is("season() at LIMIT", x.season(), STATE);
            DUE.is("the greatest", x.now(4), limit);
            DUE.is("THE SEASON", x.now(0), limit);
        }
    }

    private static void loadsThatMeetLimit() {
        int[][] worn = {{5, 4, 8}, {5, 5, 5}, {5, 6, 6}, {5, 9, 9}, {8, 4, 8}, {9, 4, 12}, {98, 9, 99}, {99, 9, 99}, {99, 8, 104},
            {91, 9, 99}, {90, 9, 90}, {99, 7, 105}};
        for (int[] row : worn) {
            QuarterTurns x = Due.made("m" + row[0] + ";l0 " + row[1] + ";");
            Due.seasons(x, 100);
            DUE.is("WORN at LIMIT " + row[0] + " by LOAD " + row[1], x.lie(0, 3), row[2]);
            DUE.is("THE SEASON", x.now(0), row[2] / row[1]);
            DUE.is("WORN OUT", x.now(3), 1);
        }
    }

    private static void wornOutByAnyWay() {
        for (int w = 0; w < 12; w++) {
            QuarterTurns x = Due.made("s6 2;m5;l" + w + " 5;b" + w + ";");
            DUE.is("not yet", x.now(3), 0);
            x.season();
            DUE.is("by WAY " + w, x.now(3), 1);
            x.makes(1);
            DUE.is("though it LIES in another", x.season(), STATE);
            x.stuffs((w + 1) % 12);
            DUE.is("though another is STUFFED", x.season(), STATE);
            x.stuffs(w);
            DUE.is("not any more", x.now(3), 0);
            DUE.is("it goes on", x.season(), 1);
        }
    }

    /** "then no SEASON goes by any more" */
    private static void noSeasonAnyMore() {
        QuarterTurns x = Due.made("l0 9;m5;");
        x.season();
        for (int i = 0; i < 20; i++) {
            DUE.is("season()", x.season(), STATE);
        }
        DUE.is("THE SEASON", x.now(0), 1);
        DUE.is("a TURN is made all the same", x.makes(1), 1);
        DUE.is("keep()", x.keep(0), 1);
        x.undo();
        x.undo();
        DUE.is("it goes on behind undo()", x.season(), 9);
        x.stuffs(0);
        x.season();
        DUE.is("WORN OUT again", x.season(), STATE);
        DUE.is("back() to what is WORN OUT", x.back(0), 1);
        DUE.is("WORN OUT there, too", x.season(), STATE);
    }

    /** "STUFFED: WORN of a WAY is 0." */
    private static void stuffedIsNone() {
        QuarterTurns x = Due.made("s6 2;l11 9;b11;");
        DUE.is("nothing WORN", x.stuffs(11), 0);
        DUE.is("it may be UNDONE all the same", x.now(6), 1);
        x.season();
        x.season();
        DUE.is("the last WAY", x.stuffs(11), 18);
        DUE.is("WORN then", x.lie(11, 3), 0);
        DUE.is("again", x.stuffs(11), 0);
        DUE.is("the first WAY", x.stuffs(0), 0);
        DUE.is("THE SEASON", x.now(0), 2);
        x.undo();
        x.undo();
        x.undo();
        DUE.is("WORN, UNDONE", x.lie(11, 3), 18);
    }

    private static void toSeason(QuarterTurns x, int season) {
        while (x.now(0) < season) {
            x.season();
            x.stuffs(0);
        }
    }

    /** "THE SEASON (0 at first; 999 at most)": no run of 512 calls comes so far; it holds all the same. */
    private static void lastSeason() {
        QuarterTurns x = new QuarterTurns();
        DUE.is("at first", x.now(0), 0);
        toSeason(x, 997);
        DUE.is("SEASON 998", x.season(), 1);
        DUE.is("SEASON 999", x.season(), 2);
        DUE.is("THE SEASON", x.now(0), 999);
        DUE.is("no more", x.season(), STATE);
        DUE.is("THE SEASON", x.now(0), 999);
        DUE.is("keep()", x.keep(0), 999);
        DUE.is("as HOLLOW", x.rate(5, 0), 1001);
        x.undo();
        DUE.is("one UNDONE", x.now(0), 998);
        DUE.is("SEASON 999 again", x.season(), 2);
        DUE.is("no more again", x.season(), STATE);
        DUE.is("it is not WORN OUT", x.now(3), 0);
        DUE.is("a TURN can be made", x.makes(1), 1);
        DUE.is("no SEASON in another WAY", x.season(), STATE);
        DUE.is("back()", x.back(0), 999);
        DUE.is("bed()", x.bed(), 0);
        DUE.is("a SEASON behind bed()", x.season(), 1);
    }

    /** "TURNS made are counted (9999 at most; more are not)", "(t: 0 too)" */
    private static void turnsCounted() {
        QuarterTurns x = new QuarterTurns();
        x.makes(0);
        DUE.is("by 0, too", x.now(2), 1);
        for (int i = 1; i < 9998; i++) {
            x.makes(3);
        }
        DUE.is("9998", x.now(2), 9998);
        x.makes(0);
        DUE.is("9999", x.now(2), 9999);
        x.keep(0);
        int way = x.now(1);
        DUE.is("one more is made", x.makes(1), x.turned(way, 1));
        DUE.is("but not counted", x.now(2), 9999);
        DUE.is("it may be UNDONE", x.undo(), 9);
        DUE.is("it LIES as ahead of it", x.now(1), way);
        DUE.is("TURNS", x.now(2), 9999);
        x.bed();
        DUE.is("none behind bed()", x.now(2), 0);
    }

    /** "(10 are known, older ones are lost)", "STATE: none" */
    private static void tenMayBeUndone() {
        for (int done = 0; done <= 13; done++) {
            QuarterTurns x = new QuarterTurns();
            for (int i = 0; i < done; i++) {
                doOne(x, i);
            }
            int known = Math.min(done, 10);
            DUE.is("may be UNDONE of " + done, x.now(6), known);
            for (int left = known - 1; left >= 0; left--) {
                DUE.is("undo() of " + done, x.undo(), left);
            }
            DUE.is("none is left of " + done, x.undo(), STATE);
            DUE.is("none is left of " + done + ", again", x.undo(), STATE);
            QuarterTurns y = new QuarterTurns();
            for (int i = 0; i < done - known; i++) {
                doOne(y, i);
            }
            alike("the oldest of " + done, x, y);
        }
    }

    private static void doOne(QuarterTurns x, int i) {
        switch (i % 3) {
            case 0 -> x.season();
            case 1 -> x.makes(i % 4);
            default -> x.stuffs((i + 1) % 4);
        }
    }

    private static void alike(String when, QuarterTurns x, QuarterTurns y) {
        for (int what = 0; what < 6; what++) {
            DUE.is(when + ": now(" + what + ")", x.now(what), y.now(what));
        }
        for (int w = 0; w < 4; w++) {
            DUE.is(when + ": WORN of " + w, x.lie(w, 3), y.lie(w, 3));
        }
    }

    private static void theRingComesRound() {
        QuarterTurns x = new QuarterTurns();
        for (int i = 0; i < 60; i++) {
            x.makes(1);
            x.makes(2);
            x.makes(3);
            DUE.is("TURNS", x.now(2), i + 3);
            x.undo();
            x.undo();
            DUE.is("TURNS, two UNDONE", x.now(2), i + 1);
            DUE.is("may be UNDONE", x.now(6), Math.min(i + 1, 8));
        }
    }

    /** WORN OUT, and what it was ahead of it, can be UNDONE; what was refused is not. */
    private static void undoneOverBounds() {
        QuarterTurns x = Due.made("l0 4;m8;");
        x.season();
        x.season();
        x.season();
        x.makes(-1);
        x.makes(4);
        x.stuffs(-1);
        x.stuffs(4);
        DUE.is("WORN OUT", x.now(3), 1);
        DUE.is("two were not refused", x.now(6), 2);
        DUE.is("undo()", x.undo(), 1);
        DUE.is("not WORN OUT", x.now(3), 0);
        DUE.is("season()", x.season(), 8);
        DUE.is("undo(), undo()", x.undo() + x.undo(), 1);
        DUE.is("nothing WORN", x.now(5), 0);
        DUE.is("undo() of nothing", x.undo(), STATE);
    }

    /** "numbers in brackets are added to THE TRACE, 0 at first, as often as rate() asks that body: each once" */
    private static void tracesAddUp() {
        QuarterTurns x = new QuarterTurns();
        DUE.is("at first", x.trace(), 0);
        long due = 0;
        int[] added = {1, 11, 101, 1011, 10101, 100001};
        for (int i = 0; i < 60; i++) {
            x.rate(i % 6, i % 4);
            due += added[i % 6];
            DUE.is("trace() behind " + (i + 1), x.trace(), due);
        }
        x.rate(-1, 0);
        x.rate(6, 0);
        x.rate(5, 4);
        x.rate(5, -1);
        DUE.is("what is refused adds nothing", x.trace(), due);
        x.again(0);
        x.now(0);
        DUE.is("other calls add nothing", x.trace(), due);
        x.season();
        x.undo();
        x.keep(0);
        x.back(0);
        DUE.is("it is not UNDONE, nor an IMAGE's", x.trace(), due);
    }

    private static void ratesAtBounds() {
        QuarterTurns x = Due.made("s6 2;l0 9;l11 9;m99;b11;");
        DUE.is("WAY: nothing WORN", x.rate(0, 0), 0);
        DUE.is("END: LOAD alone", x.rate(1, 0), 9);
        DUE.is("SIDE: AGAIN of 0 is 1", x.rate(2, 0), -1);
        DUE.is("SIDE: AGAIN of 5 is 6", x.rate(2, 5), -6);
        DUE.is("HEAD: twice LOAD", x.rate(3, 0), 18);
        DUE.is("FOOT: number 0", x.rate(4, 0), -1);
        DUE.is("FOOT: number 11", x.rate(4, 11), 9);
        DUE.is("HOLLOW: SEASON 0", x.rate(5, 0), 0);
        Due.seasons(x, 11);
        DUE.is("HEAD of what is WORN OUT", x.rate(3, 11), 2 * (99 + 9));
        DUE.is("HOLLOW in SEASON 11", x.rate(5, 11), 110);
        DUE.is("HOLLOW of another", x.rate(5, 0), 11);
    }

    /** "IMAGES 0, 1", "STATE: none was kept" */
    private static void twoImages() {
        QuarterTurns x = new QuarterTurns();
        DUE.is("back(0), none kept", x.back(0), STATE);
        DUE.is("back(1), none kept", x.back(1), STATE);
        DUE.is("keep(0) at first", x.keep(0), 0);
        x.season();
        DUE.is("back(1), only 0 kept", x.back(1), STATE);
        DUE.is("keep(1)", x.keep(1), 1);
        x.season();
        DUE.is("back(0)", x.back(0), 0);
        DUE.is("back(1)", x.back(1), 1);
        DUE.is("back(1) again", x.back(1), 1);
        x.season();
        DUE.is("kept again: the later", x.keep(0), 2);
        DUE.is("back(1)", x.back(1), 1);
        DUE.is("back(0)", x.back(0), 2);
        DUE.is("bed()", x.bed(), 0);
        DUE.is("gone: back(0)", x.back(0), STATE);
        DUE.is("gone: back(1)", x.back(1), STATE);
        x.keep(1);
        Due.type(x, "x");
        DUE.is("bed() with a FAULT", x.bed(), -10);
        DUE.is("not gone", x.back(1), 0);
    }

    /** "keep NOW (the WAY, WORN, THE SEASON, TURNS made); nothing else" */
    private static void imagesOfAllThatIsKept() {
        QuarterTurns x = Due.made("s6 2;l11 9;b11;");
        x.season();
        x.makes(1);
        x.makes(6);
        x.keep(0);
        x.season();
        x.makes(2);
        x.stuffs(11);
        x.hollows(0, 0, 0);
        x.type('m');
        x.back(0);
        int[] due = {1, 4, 2, 0, 9, 9, 0};
        for (int what = 0; what < due.length; what++) {
            DUE.is("now(" + what + ")", x.now(what), due[what]);
        }
        DUE.is("WORN of the last WAY", x.lie(11, 3), 9);
        DUE.is("WORN of 4", x.lie(4, 3), 0);
        DUE.is("HOLLOWS are not kept", x.count(4), 1);
        DUE.is("nor is the text", x.count(5), 1);
    }

    /** "(nothing can be UNDONE behind back())" */
    private static void nothingUndoneBehindBack() {
        QuarterTurns x = new QuarterTurns();
        x.keep(0);
        Due.seasons(x, 12);
        DUE.is("ten ahead of back()", x.now(6), 10);
        x.back(0);
        DUE.is("none behind it", x.now(6), 0);
        DUE.is("undo()", x.undo(), STATE);
        x.makes(1);
        DUE.is("one behind makes()", x.now(6), 1);
        DUE.is("undo()", x.undo(), 0);
        DUE.is("TURNS", x.now(2), 0);
        DUE.is("undo() no farther", x.undo(), STATE);
        DUE.is("THE SEASON", x.now(0), 0);
    }

    /** "at most 512 calls": the most SEASONS that one run can have. */
    private static void longestRun() {
        QuarterTurns x = new QuarterTurns();
        for (int i = 1; i <= 256; i++) {
            DUE.is("season() " + i, x.season(), 1);
            DUE.is("stuffs() " + i, x.stuffs(0), 1);
        }
        DUE.is("THE SEASON", x.now(0), 256);
        DUE.is("may be UNDONE", x.now(6), 10);
    }
}

/** Promises 8 season, 9 makes, 10 stuffs, 11 undo. */
public final class DoneTest {
    private static final Due DUE = new Due("DoneTest");

    public static void main(String[] args) {
        seasons();
        turnsAreMade();
        stuffed();
        undone();
        refusedIsNotUndone();
        ends();
        DUE.end();
    }

    private static void seasons() {
        QuarterTurns x = Due.made("l0 4;m9;");
        DUE.is("season()", x.season(), 4);
        DUE.is("season()", x.season(), 8);
        DUE.is("not WORN OUT one below LIMIT", x.now(3), 0);
        DUE.is("season()", x.season(), 12);
        DUE.is("WORN OUT", x.season(), QuarterTurns.STATE);
        DUE.is("THE SEASON", x.now(0), 3);
        DUE.is("WORN", x.lie(0, 3), 12);
        DUE.is("may be UNDONE", x.now(6), 3);
        x.makes(1);
        DUE.is("WORN OUT by another WAY", x.season(), QuarterTurns.STATE);
        x.stuffs(0);
        DUE.is("goes on when it is stuffed", x.season(), 1);
        DUE.is("THE SEASON", x.now(0), 4);
    }

    private static void turnsAreMade() {
        QuarterTurns x = Due.made("s6 2;b7;l7 9;m5;");
        x.season();
        DUE.is("makes(0)", x.makes(0), 7);
        DUE.is("TURNS", x.now(2), 1);
        DUE.is("makes(8)", x.makes(8), 5);
        DUE.is("TURNS", x.now(2), 2);
        DUE.is("LIES", x.now(1), 5);
        DUE.is("THE SEASON", x.now(0), 1);
        DUE.is("WORN of all", x.now(5), 9);
        DUE.is("makes(12)", x.makes(12), QuarterTurns.BAD);
        DUE.is("makes(-1)", x.makes(-1), QuarterTurns.BAD);
        DUE.is("TURNS behind BAD", x.now(2), 2);
        DUE.is("LIES behind BAD", x.now(1), 5);
    }

    private static void stuffed() {
        QuarterTurns x = Due.made("l0 4;");
        Due.seasons(x, 2);
        x.makes(2);
        Due.seasons(x, 3);
        DUE.is("stuffs(0)", x.stuffs(0), 8);
        DUE.is("stuffs(0) again", x.stuffs(0), 0);
        DUE.is("WORN of 0", x.lie(0, 3), 0);
        DUE.is("WORN of 2", x.lie(2, 3), 3);
        DUE.is("THE SEASON", x.now(0), 5);
        DUE.is("TURNS", x.now(2), 1);
        DUE.is("stuffs(4)", x.stuffs(4), QuarterTurns.BAD);
        DUE.is("stuffs(-1)", x.stuffs(-1), QuarterTurns.BAD);
        DUE.is("may be UNDONE", x.now(6), 8);
    }

    private static void undone() {
        QuarterTurns x = Due.made("l0 4;");
        x.season();
        x.makes(3);
        x.season();
        x.stuffs(0);
        x.stuffs(1);
        DUE.is("undo() of stuffs(1)", x.undo(), 4);
        DUE.is("WORN of 0 is still 0", x.lie(0, 3), 0);
        DUE.is("undo() of stuffs(0)", x.undo(), 3);
        DUE.is("WORN of 0", x.lie(0, 3), 4);
        DUE.is("undo() of season()", x.undo(), 2);
        DUE.is("WORN of 3", x.lie(3, 3), 0);
        DUE.is("THE SEASON", x.now(0), 1);
        DUE.is("LIES", x.now(1), 3);
        DUE.is("undo() of makes(3)", x.undo(), 1);
        DUE.is("LIES", x.now(1), 0);
        DUE.is("TURNS", x.now(2), 0);
        DUE.is("what is done anew", x.makes(1), 1);
        DUE.is("may be UNDONE", x.now(6), 2);
        DUE.is("undo() of makes(1)", x.undo(), 1);
        DUE.is("undo() of season()", x.undo(), 0);
        DUE.is("THE SEASON", x.now(0), 0);
        DUE.is("none is left", x.undo(), QuarterTurns.STATE);
        tenAreKnown();
    }

    private static void tenAreKnown() {
        QuarterTurns x = new QuarterTurns();
        Due.seasons(x, 10);
        DUE.is("ten may be UNDONE", x.now(6), 10);
        x.season();
        x.makes(1);
        x.makes(1);
        DUE.is("ten, not more", x.now(6), 10);
        for (int left = 9; left >= 0; left--) {
            DUE.is("undo()", x.undo(), left);
        }
        DUE.is("older ones are lost", x.undo(), QuarterTurns.STATE);
        DUE.is("THE SEASON", x.now(0), 3);
        DUE.is("WORN", x.lie(0, 3), 3);
        DUE.is("TURNS", x.now(2), 0);
        DUE.is("LIES", x.now(1), 0);
    }

    private static void refusedIsNotUndone() {
        QuarterTurns x = Due.made("l0 9;m5;");
        x.season();
        x.season();
        x.makes(4);
        x.stuffs(4);
        x.keep(0);
        x.hollows(0, 0, 9);
        x.type('m');
        DUE.is("may be UNDONE", x.now(6), 1);
        DUE.is("undo()", x.undo(), 0);
        DUE.is("WORN", x.now(5), 0);
        DUE.is("HOLLOWS stay", x.count(4), 1);
        DUE.is("letters stay", x.count(5), 1);
        DUE.is("IMAGES stay", x.back(0), 1);
        DUE.is("WORN", x.now(5), 9);
    }

    /** No run of 512 calls comes so far; the class keeps to it all the same. */
    private static void ends() {
        QuarterTurns x = new QuarterTurns();
        for (int i = 1; i <= 999; i++) {
            x.season();
            x.stuffs(0);
        }
        DUE.is("THE SEASON", x.now(0), 999);
        DUE.is("not WORN OUT", x.now(3), 0);
        DUE.is("it is SEASON 999", x.season(), QuarterTurns.STATE);
        DUE.is("WORN", x.now(5), 0);
        for (int i = 0; i < 9998; i++) {
            x.makes(1);
        }
        DUE.is("TURNS", x.now(2), 9998);
        DUE.is("makes(1)", x.makes(1), 1);
        DUE.is("TURNS", x.now(2), 9999);
        DUE.is("made, but not counted", x.makes(1), 0);
        DUE.is("TURNS", x.now(2), 9999);
        x.undo();
        DUE.is("TURNS, one UNDONE", x.now(2), 9999);
        x.undo();
        DUE.is("TURNS, two UNDONE", x.now(2), 9998);
    }
}

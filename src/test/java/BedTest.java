/** Promises 1 a new object, 5 lie, 6 turned, 7 now. */
public final class BedTest {
    private static final Due DUE = new Due("BedTest");

    public static void main(String[] args) {
        newObject();
        objectsAreApart();
        lies();
        turnings();
        nows();
        DUE.end();
    }

    private static void newObject() {
        QuarterTurns x = new QuarterTurns();
        DUE.is("STEPS", x.count(0), 2);
        DUE.is("COVERS", x.count(1), 2);
        DUE.is("WAYS", x.count(2), 4);
        DUE.is("LIMIT", x.count(3), 20);
        DUE.is("HOLLOWS", x.count(4), 0);
        DUE.is("letters", x.count(5), 0);
        for (int what = 0; what < 7; what++) {
            DUE.is("now(" + what + ")", x.now(what), 0);
        }
        for (int w = 0; w < 4; w++) {
            DUE.is("LOAD of " + w, x.lie(w, 2), 1);
            DUE.is("WORN of " + w, x.lie(w, 3), 0);
        }
        DUE.is("trace()", x.trace(), 0);
        DUE.is("undo()", x.undo(), QuarterTurns.STATE);
        DUE.is("back(0)", x.back(0), QuarterTurns.STATE);
        DUE.is("back(1)", x.back(1), QuarterTurns.STATE);
    }

    private static void objectsAreApart() {
        QuarterTurns x = new QuarterTurns();
        QuarterTurns y = new QuarterTurns();
        x.season();
        x.makes(1);
        x.type('m');
        x.hollows(0, 0, 0);
        x.rate(0, 0);
        DUE.is("SEASON of the other", y.now(0), 0);
        DUE.is("LIES of the other", y.now(1), 0);
        DUE.is("WORN of the other", y.now(5), 0);
        DUE.is("letters of the other", y.count(5), 0);
        DUE.is("HOLLOWS of the other", y.count(4), 0);
        DUE.is("TRACE of the other", y.trace(), 0);
    }

    private static void lies() {
        QuarterTurns x = Due.made("s4 2;l6 7;l3 2;b6;");
        x.season();
        DUE.is("STEP of 6", x.lie(6, 0), 2);
        DUE.is("COVER of 6", x.lie(6, 1), 1);
        DUE.is("LOAD of 6", x.lie(6, 2), 7);
        DUE.is("WORN of 6", x.lie(6, 3), 7);
        DUE.is("STEP of 3", x.lie(3, 0), 3);
        DUE.is("COVER of 3", x.lie(3, 1), 0);
        DUE.is("LOAD of 3", x.lie(3, 2), 2);
        DUE.is("WORN of 3", x.lie(3, 3), 0);
        DUE.is("STEP of 4", x.lie(4, 0), 0);
        DUE.is("COVER of 4", x.lie(4, 1), 1);
        DUE.is("lie(8, 0)", x.lie(8, 0), QuarterTurns.BAD);
        DUE.is("lie(-1, 0)", x.lie(-1, 0), QuarterTurns.BAD);
        DUE.is("lie(0, 4)", x.lie(0, 4), QuarterTurns.BAD);
        DUE.is("lie(0, -1)", x.lie(0, -1), QuarterTurns.BAD);
        DUE.is("lie(min, max)", x.lie(Integer.MIN_VALUE, Integer.MAX_VALUE), QuarterTurns.BAD);
    }

    private static void turnings() {
        QuarterTurns x = Due.made("s5 2;");
        DUE.is("from 4 by 3 STEPS", x.turned(4, 3), 2);
        DUE.is("from 4 of COVER 1 by 3 STEPS", x.turned(9, 3), 6);
        DUE.is("from 1 of COVER 1 by 3 STEPS", x.turned(6, 3), 8);
        DUE.is("from 4 over", x.turned(4, 5), 9);
        DUE.is("from 9 over", x.turned(9, 5), 4);
        DUE.is("from 4 by 3 and over", x.turned(4, 8), 7);
        DUE.is("from 6 by 3 and over", x.turned(6, 8), 3);
        DUE.is("from 7 by none", x.turned(7, 0), 7);
        DUE.is("nothing changed", x.now(1), 0);
        DUE.is("turned(10, 0)", x.turned(10, 0), QuarterTurns.BAD);
        DUE.is("turned(0, 10)", x.turned(0, 10), QuarterTurns.BAD);
        DUE.is("turned(-1, 0)", x.turned(-1, 0), QuarterTurns.BAD);
        DUE.is("turned(0, -1)", x.turned(0, -1), QuarterTurns.BAD);
        QuarterTurns y = Due.made("s3 1;");
        DUE.is("one COVER: from 2 by 2", y.turned(2, 2), 1);
        DUE.is("one COVER: turned(3, 0)", y.turned(3, 0), QuarterTurns.BAD);
    }

    private static void nows() {
        QuarterTurns x = Due.made("l1 3;m6;");
        x.season();
        x.season();
        x.makes(1);
        x.season();
        int[] due = {3, 1, 1, 0, 3, 5, 4};
        for (int what = 0; what < due.length; what++) {
            DUE.is("now(" + what + ")", x.now(what), due[what]);
        }
        x.season();
        DUE.is("WORN is LIMIT: WORN OUT", x.now(3), 1);
        DUE.is("the greatest WORN", x.now(4), 6);
        x.makes(1);
        DUE.is("WORN OUT in whatever WAY it LIES", x.now(3), 1);
        DUE.is("now(-1)", x.now(-1), QuarterTurns.BAD);
        DUE.is("now(7)", x.now(7), QuarterTurns.BAD);
        DUE.is("now(min)", x.now(Integer.MIN_VALUE), QuarterTurns.BAD);
    }
}

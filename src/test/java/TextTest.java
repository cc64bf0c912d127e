/** Promises 2 type, 3 clear, 4 bed, 29 count. */
public final class TextTest {
    private static final Due DUE = new Due("TextTest");

    public static void main(String[] args) {
        letters();
        readTexts();
        faults();
        faultChangesNothing();
        readAnew();
        counts();
        DUE.end();
    }

    private static void letters() {
        QuarterTurns x = new QuarterTurns();
        DUE.is("clear() of nothing", x.clear(), 0);
        DUE.is("type(0)", x.type(0), 1);
        DUE.is("type(255)", x.type(255), 2);
        DUE.is("type(-1)", x.type(-1), QuarterTurns.BAD);
        DUE.is("type(256)", x.type(256), QuarterTurns.BAD);
        DUE.is("type(min)", x.type(Integer.MIN_VALUE), QuarterTurns.BAD);
        DUE.is("type(max)", x.type(Integer.MAX_VALUE), QuarterTurns.BAD);
        DUE.is("count(5)", x.count(5), 2);
        DUE.is("clear()", x.clear(), 2);
        DUE.is("clear() again", x.clear(), 0);
        for (int i = 1; i <= 200; i++) {
            DUE.is("type " + i, x.type(32), i);
        }
        DUE.is("letter 201", x.type(32), QuarterTurns.FULL);
        DUE.is("BAD goes ahead of FULL", x.type(256), QuarterTurns.BAD);
        DUE.is("count(5) when full", x.count(5), 200);
        DUE.is("bed() of 200 blanks", x.bed(), 0);
        DUE.is("count(5) behind bed()", x.count(5), 0);
        Due.type(x, "x".repeat(200));
        DUE.is("clear() when full", x.clear(), 200);
        DUE.is("type behind clear()", x.type(59), 1);
    }

    private static void good(String text, int items) {
        QuarterTurns x = new QuarterTurns();
        DUE.is("bed() of '" + text + "'", Due.bed(x, text), items);
        DUE.is("letters behind '" + text + "'", x.count(5), 0);
    }

    private static void readTexts() {
        good("", 0);
        good("    ", 0);
        good("s2 1;", 1);
        good("s6 2;", 1);
        good("  s  6  2  ;  ", 1);
        good("m5;", 1);
        good("m99;", 1);
        good("b3;m7;l3 9;l0 1;", 4);
        good("l 0 9;l 0 1;l 0 5;", 3);
        good("s6 2;b11;l11 9;l10 1;", 4);
        good("s6 1;b5;l5 9;", 3);
        good("l0 1;".repeat(40), 40);
        QuarterTurns x = Due.made("s5 2;l9 7;l9 3;l0 9;m42;b8;");
        DUE.is("STEPS", x.count(0), 5);
        DUE.is("COVERS", x.count(1), 2);
        DUE.is("WAYS", x.count(2), 10);
        DUE.is("LIMIT", x.count(3), 42);
        DUE.is("told again: the later", x.lie(9, 2), 3);
        DUE.is("LOAD of 0", x.lie(0, 2), 9);
        DUE.is("LOAD not told", x.lie(4, 2), 1);
        DUE.is("the WAY at first", x.now(1), 8);
    }

    private static void fault(String text, int place) {
        QuarterTurns x = new QuarterTurns();
        DUE.is("bed() of '" + text + "'", Due.bed(x, text), -10 - place);
        DUE.is("the text stays: '" + text + "'", x.count(5), text.length());
    }

    private static void faults() {
        String[] atOnce = {";", "5;", "x", "S2 2;", "\t", "\u0000", "\u00ff", "100", "00", ",", "-1;", "n5;"};
        for (String text : atOnce) {
            fault(text, 0);
        }
        String[] atOne = {"s1 1;", "s7 1;", "s0 1;", "s;", "ss", "s00 1;", "s02 1;", "s", "l4 1;", "l;", "m4;", "m0;", "m100;",
            "m05;", "m00", "m;", "mm", "m\t5;", "b4;", "b99;", "b;", "b00;", " ;", "m", "l", "b", "m-5;", "s22;", "m4", "b4",
            "m4294967301;", "m18446744073709551621;", "m" + "9".repeat(60) + ";", "m" + "0".repeat(60) + "5;"};
        for (String text : atOne) {
            fault(text, 1);
        }
        fault("s 22;", 2);
        fault("s2", 2);
        fault("s2;", 2);
        fault("s2,2;", 2);
        fault("l0;", 2);
        fault("m5", 2);
        fault("m5m", 2);
        fault("b0,", 2);
        fault("m ", 2);
        fault("m 5 ", 4);
        fault("m 5 5;", 4);
        fault("s2 0;", 3);
        fault("s2 3;", 3);
        fault("s2 02;", 3);
        fault("s2 ;", 3);
        fault("l0 0;", 3);
        fault("l0 10;", 3);
        fault("l0 09;", 3);
        fault("l0 x;", 3);
        fault("s2 2", 4);
        fault("s2 2   ", 7);
        fault("l0 1", 4);
        fault("l0 1 2;", 5);
        fault("s2 2 2;", 5);
        fault("m5;m5;", 3);
        fault("m5;m", 3);
        fault("b0;b1;", 3);
        fault("m5;;", 3);
        fault("m5;s2 2;", 3);
        fault("s2 2;s2 2;", 5);
        fault("s2 2;m5;s2 2;", 8);
        fault("s2 1;l2 1;", 6);
        fault("s2 1;b2;", 6);
        fault("s3 2;l6 1;", 6);
        fault("s6 2;b12;", 6);
        fault("l0 1;l1 1;l2 1;l3 1;l4 1;", 21);
        fault("m5;b0;m6;x", 6);
        fault("m5;x4 100", 3);
        fault(" ".repeat(199) + "m", 200);
        fault(" ".repeat(199) + ";", 199);
    }

    private static void faultChangesNothing() {
        QuarterTurns x = Due.made("s3 2;l1 4;m30;b1;");
        x.season();
        x.makes(3);
        x.keep(0);
        x.hollows(1, 1, 4);
        DUE.is("bed() with a FAULT at its end", Due.bed(x, "s2 1;l0 9;m5;b1;l0 9"), -30);
        DUE.is("letters", x.count(5), 20);
        DUE.is("bed() asked again", x.bed(), -30);
        DUE.is("STEPS", x.count(0), 3);
        DUE.is("WAYS", x.count(2), 6);
        DUE.is("LIMIT", x.count(3), 30);
        DUE.is("LOAD", x.lie(1, 2), 4);
        DUE.is("LOAD of 0", x.lie(0, 2), 1);
        DUE.is("WORN", x.lie(1, 3), 4);
        DUE.is("LIES", x.now(1), 4);
        DUE.is("HOLLOWS", x.count(4), 1);
        DUE.is("may be UNDONE", x.now(6), 2);
        DUE.is("back(0)", x.back(0), 1);
        x.type(';');
        DUE.is("the text goes on", x.bed(), 5);
        DUE.is("WAYS then", x.count(2), 2);
    }

    private static void readAnew() {
        QuarterTurns x = Due.made("s3 2;l1 4;m30;b1;");
        x.season();
        x.makes(3);
        x.keep(0);
        x.keep(1);
        x.hollows(1, 1, 4);
        x.rate(5, 1);
        DUE.is("bed() of nothing", x.bed(), 0);
        DUE.is("STEPS", x.count(0), 2);
        DUE.is("COVERS", x.count(1), 2);
        DUE.is("LIMIT", x.count(3), 20);
        DUE.is("LOAD", x.lie(1, 2), 1);
        DUE.is("WORN", x.now(5), 0);
        DUE.is("SEASON", x.now(0), 0);
        DUE.is("LIES", x.now(1), 0);
        DUE.is("TURNS", x.now(2), 0);
        DUE.is("HOLLOWS", x.count(4), 0);
        DUE.is("may be UNDONE", x.now(6), 0);
        DUE.is("undo()", x.undo(), QuarterTurns.STATE);
        DUE.is("back(0)", x.back(0), QuarterTurns.STATE);
        DUE.is("back(1)", x.back(1), QuarterTurns.STATE);
        DUE.is("THE TRACE stays", x.trace(), 100001);
    }

    private static void counts() {
        QuarterTurns x = new QuarterTurns();
        int[] atFirst = {2, 2, 4, 20, 0, 0};
        for (int i = 0; i < atFirst.length; i++) {
            DUE.is("count(" + i + ") at first", x.count(i), atFirst[i]);
        }
        x.type(32);
        x.hollows(0, 0, 0);
        x.hollows(0, 0, 0);
        DUE.is("count(4)", x.count(4), 2);
        DUE.is("count(5)", x.count(5), 1);
        DUE.is("count(-1)", x.count(-1), QuarterTurns.BAD);
        DUE.is("count(6)", x.count(6), QuarterTurns.BAD);
    }
}

/** Part 1 of the document, sentence by sentence, where it names a bound: the text, its ITEMS, TOKENS and FAULT. */
public final class TextEdgesTest {
    private static final Due DUE = new Due("TextEdgesTest");

    public static void main(String[] args) {
        twoHundredLetters();
        fullStaysReadable();
        nothingTold();
        stepsTwoToSix();
        coversOneOrTwo();
        loadsOneToNine();
        limitFiveToNinetyNine();
        waysThatThereAre();
        shapeIsFirst();
        loadToldAgain();
        onceAtMost();
        numbersToNinetyNine();
        noZeroAhead();
        blanksBetween();
        endsTooEarly();
        anyLetterAtAnItem();
        anyLetterAtANumber();
        anyLetterAtAnEnd();
        tokensInOneAnothersPlace();
        firstFaultCounts();
        toldAnew();
        DUE.end();
    }

    private static void told(String text, int items) {
        QuarterTurns x = new QuarterTurns();
        DUE.is("bed() of '" + text + "'", Due.bed(x, text), items);
        DUE.is("it is empty then: '" + text + "'", x.count(5), 0);
    }

    private static void fault(String text, int place) {
        QuarterTurns x = new QuarterTurns();
        DUE.is("bed() of '" + text + "'", Due.bed(x, text), -10 - place);
        DUE.is("it stays: '" + text + "'", x.count(5), text.length());
    }

    /** "a text (200 letters at most)" */
    private static void twoHundredLetters() {
        QuarterTurns x = new QuarterTurns();
        for (int i = 1; i <= 200; i++) {
            DUE.is("letter " + i, x.type(i), i);
        }
        DUE.is("letter 201", x.type(1), QuarterTurns.FULL);
        DUE.is("letters", x.count(5), 200);
        DUE.is("clear()", x.clear(), 200);
        DUE.is("clear() of nothing", x.clear(), 0);
        DUE.is("the first again", x.type(1), 1);
    }

    private static void fullStaysReadable() {
        QuarterTurns x = new QuarterTurns();
        Due.type(x, "m7;" + "l0 1;".repeat(39) + " ");
        DUE.is("one letter is left", x.type(' '), 200);
        DUE.is("none is left", x.type('x'), QuarterTurns.FULL);
        DUE.is("what was refused is not read", x.bed(), 40);
        DUE.is("LIMIT", x.count(3), 7);
        told("l0 1;".repeat(40), 40);
        fault("l0 1;".repeat(39) + "l0 1x", 199);
        fault("l0 1;".repeat(39) + "l0  1", 200);
        QuarterTurns y = new QuarterTurns();
        Due.type(y, "x".repeat(200));
        DUE.is("bed() of 200 other letters", y.bed(), -10);
        DUE.is("full behind a FAULT", y.type('x'), QuarterTurns.FULL);
        DUE.is("not full behind clear()", y.clear() + y.type('x'), 201);
    }

    /** "2, 2 at first", "1 at first", "20 at first", "else 0" */
    private static void nothingTold() {
        for (String text : new String[] {"", " ", " ".repeat(200)}) {
            QuarterTurns x = Due.made("s6 1;l3 9;m99;b5;");
            DUE.is("bed() of blanks", Due.bed(x, text), 0);
            DUE.holds("all is as at first", Seen.of(x).equals(Seen.of(new QuarterTurns())));
        }
    }

    /** "STEPS (2 .. 6)" */
    private static void stepsTwoToSix() {
        for (int covers = 1; covers <= 2; covers++) {
            fault("s0 " + covers + ";", 1);
            fault("s1 " + covers + ";", 1);
            for (int steps = 2; steps <= 6; steps++) {
                QuarterTurns x = new QuarterTurns();
                DUE.is("STEPS " + steps, Due.bed(x, "s" + steps + " " + covers + ";"), 1);
                DUE.is("STEPS", x.count(0), steps);
                DUE.is("COVERS", x.count(1), covers);
                DUE.is("WAYS", x.count(2), steps * covers);
            }
            fault("s7 " + covers + ";", 1);
        }
    }

    /** "COVERS (1 or 2)" */
    private static void coversOneOrTwo() {
        for (int steps = 2; steps <= 6; steps++) {
            fault("s" + steps + " 0;", 3);
            told("s" + steps + " 1;", 1);
            told("s" + steps + " 2;", 1);
            fault("s" + steps + " 3;", 3);
        }
    }

    /** "LOAD of a WAY (1 .. 9; 1 at first)" */
    private static void loadsOneToNine() {
        fault("l3 0;", 3);
        for (int load = 1; load <= 9; load++) {
            QuarterTurns x = Due.made("l3 " + load + ";");
            DUE.is("LOAD told", x.lie(3, 2), load);
            DUE.is("LOAD not told", x.lie(2, 2), 1);
            x.makes(3);
            DUE.is("what it wears in a SEASON", x.season(), load);
        }
        fault("l3 10;", 3);
    }

    /** "LIMIT (5 .. 99; 20 at first)" */
    private static void limitFiveToNinetyNine() {
        fault("m0;", 1);
        fault("m4;", 1);
        for (int limit = 5; limit <= 99; limit++) {
            DUE.is("LIMIT " + limit, Due.made("m" + limit + ";").count(3), limit);
        }
        fault("m100;", 1);
        DUE.is("LIMIT not told", Due.made("b1;").count(3), 20);
    }

    /** "a WAY that there is not": by STEPS and COVERS told in this text, else 2, 2 */
    private static void waysThatThereAre() {
        for (int covers = 1; covers <= 2; covers++) {
            for (int steps = 2; steps <= 6; steps++) {
                int ways = steps * covers;
                String shape = "s" + steps + " " + covers + ";";
                DUE.is("b of the first", Due.made(shape + "b0;").now(1), 0);
                DUE.is("b of the last", Due.made(shape + "b" + (ways - 1) + ";").now(1), ways - 1);
                DUE.is("l of the first", Due.made(shape + "l0 7;").lie(0, 2), 7);
                DUE.is("l of the last", Due.made(shape + "l" + (ways - 1) + " 7;").lie(ways - 1, 2), 7);
                fault(shape + "b" + ways + ";", 6);
                fault(shape + "l" + ways + " 7;", 6);
            }
        }
        told("b3;l3 1;", 2);
        fault("b4;", 1);
        fault("l4 1;", 1);
        QuarterTurns x = Due.made("s6 2;");
        DUE.is("STEPS and COVERS told ahead of this text don't count", Due.bed(x, "b4;"), -11);
        DUE.is("WAYS", x.count(2), 12);
        QuarterTurns y = Due.made("s2 1;");
        DUE.is("2, 2 if it is not told", Due.bed(y, "b3;"), 1);
        DUE.is("WAYS", y.count(2), 4);
    }

    /** "the first of all, if it is told", "s behind another ITEM" */
    private static void shapeIsFirst() {
        told("s2 2;l0 1;", 2);
        told("   s2 2;", 1);
        fault("l0 1;s2 2;", 5);
        fault("m5;s2 2;", 3);
        fault("b0;s2 2;", 3);
        fault("s2 2;s2 2;", 5);
        fault("s2 2; s2 2;", 6);
        fault("m5;b0;l0 1;s", 11);
    }

    /** "told again: the later" */
    private static void loadToldAgain() {
        DUE.is("twice", Due.made("l1 9;l1 2;").lie(1, 2), 2);
        DUE.is("thrice", Due.made("l1 2;l1 9;l1 5;").lie(1, 2), 5);
        DUE.is("with others between", Due.made("l1 2;m5;l0 3;b1;l1 4;").lie(1, 2), 4);
        DUE.is("as at first", Due.made("l1 9;l1 1;").lie(1, 2), 1);
        told("l1 9;l1 9;", 2);
    }

    /** "once at most each", "m, b again" */
    private static void onceAtMost() {
        told("m5;b0;", 2);
        told("b0;m5;", 2);
        fault("m5;m5;", 3);
        fault("m5;m6;", 3);
        fault("b0;b0;", 3);
        fault("b0;b1;", 3);
        fault("m5;b0;m5;", 6);
        fault("b0;m5;b0;", 6);
        fault("m5;b0;l0 1;m", 11);
        QuarterTurns x = new QuarterTurns();
        DUE.is("once in each text", Due.bed(x, "m5;b1;") + Due.bed(x, "m6;b2;"), 4);
        DUE.is("LIMIT", x.count(3), 6);
        DUE.is("the WAY", x.now(1), 2);
        DUE.is("a FAULT, then once", Due.bed(x, "m7;b3;m"), -16);
        x.clear();
        DUE.is("m and b", Due.bed(x, "m7;b3;"), 2);
    }

    /** "a NUMBER above 99 .., that TOKEN's" */
    private static void numbersToNinetyNine() {
        told("m99;", 1);
        String[] above = {"100", "101", "999", "1000", "4294967301", "2147483653", "18446744073709551621", "1" + "0".repeat(150)};
        for (String number : above) {
            fault("m" + number + ";", 1);
            fault("m" + number, 1);
            fault(number, 0);
            fault("s2 " + number + ";", 3);
            fault("m5 " + number + ";", 3);
            fault("l0 " + number, 3);
            fault("b0;" + number, 3);
        }
        fault("b99;", 1);
        fault("s99 1;", 1);
        fault("l0 99;", 3);
        fault("m5 99;", 3);
    }

    /** "with a 0 ahead of others" */
    private static void noZeroAhead() {
        told("b0;", 1);
        told("l0 5;", 1);
        String[] numbers = {"00", "01", "05", "09", "000", "010", "0" + "0".repeat(150), "0".repeat(150) + "7"};
        for (String number : numbers) {
            fault("b" + number + ";", 1);
            fault("m" + number, 1);
            fault("l0 " + number + ";", 3);
            fault(number, 0);
        }
        told("m10;", 1);
        told("m50;", 1);
        fault("s02 2;", 1);
        fault("s2 02;", 3);
    }

    /** "blanks (32) between TOKENS" */
    private static void blanksBetween() {
        told("s2 2;l0 9;m5;b1;", 4);
        told(" s 2 2 ; l 0 9 ; m 5 ; b 1 ; ", 4);
        told("   s   2   2   ;   m   99   ;   ", 2);
        fault("s22;", 1);
        fault("l09;", 1);
        fault("l31;", 1);
        fault("m5 0;", 3);
        fault("m 1 0;", 2);
        for (int letter : new int[] {0, 8, 9, 10, 13, 31, 33, 127, 128, 160, 255}) {
            fault((char) letter + "m5;", 0);
            fault("m" + (char) letter + "5;", 1);
            fault("m5" + (char) letter + ";", 2);
            fault("m5;" + (char) letter, 3);
        }
    }

    /** "the text's length, if it ends too early" */
    private static void endsTooEarly() {
        String whole = "s3 2;l5 9;m50;b4;";
        int items = 0;
        for (int length = 0; length <= whole.length(); length++) {
            String part = whole.substring(0, length);
            if (part.isEmpty() || part.endsWith(";")) {
                items = (int) part.chars().filter(letter -> letter == ';').count();
                told(part, items);
                told(part + "  ", items);
            } else {
                fault(part, length);
                fault(part + " ", length + 1);
                fault(part + "   ", length + 3);
            }
        }
        DUE.is("the whole", items, 4);
    }

    private static int answer(String text) {
        return Due.bed(new QuarterTurns(), text);
    }

    /** "TOKENS are the letters s, l, m, b, NUMBERS and ;", "of any other letter .., that TOKEN's" */
    private static void anyLetterAtAnItem() {
        for (int letter = 0; letter <= 255; letter++) {
            boolean starts = letter == 's' || letter == 'l' || letter == 'm' || letter == 'b';
            int due = letter == ' ' ? 0 : starts ? -11 : -10;
            DUE.is("letter " + letter + " alone", answer("" + (char) letter), due);
            int behind = letter == ' ' ? 1 : letter == 'l' || letter == 'b' ? -14 : -13;
            DUE.is("letter " + letter + " behind m5;", answer("m5;" + (char) letter), behind);
        }
    }

    private static void anyLetterAtANumber() {
        for (int letter = 0; letter <= 255; letter++) {
            boolean stands = letter == ' ' || letter >= '5' && letter <= '9';
            DUE.is("letter " + letter + " behind m", answer("m" + (char) letter), stands ? -12 : -11);
            stands = letter == ' ' || letter >= '1' && letter <= '2';
            DUE.is("letter " + letter + " behind s2 ", answer("s2 " + (char) letter), stands ? -14 : -13);
            stands = letter == ' ' || letter >= '0' && letter <= '3';
            DUE.is("letter " + letter + " behind l", answer("l" + (char) letter), stands ? -12 : -11);
        }
    }

    private static void anyLetterAtAnEnd() {
        for (int letter = 0; letter <= 255; letter++) {
            boolean longer = letter == ' ' || letter >= '0' && letter <= '9';
            int due = letter == ';' ? 1 : longer ? -13 : -12;
            DUE.is("letter " + letter + " behind m5", answer("m5" + (char) letter), due);
            due = letter == ';' ? 1 : letter == ' ' ? -14 : -13;
            DUE.is("letter " + letter + " behind m5 and a blank", answer("m5 " + (char) letter), due);
        }
    }

    /** "the first TOKEN that can't stand there" */
    private static void tokensInOneAnothersPlace() {
        for (String token : new String[] {"s", "l", "m", "b", ";"}) {
            fault("s" + token, 1);
            fault("s2" + token, 2);
            fault("l" + token, 1);
            fault("l0" + token, 2);
            fault("m" + token, 1);
            fault("b" + token, 1);
        }
        for (String token : new String[] {"s", "l", "m", "b", " 1"}) {
            int place = token.startsWith(" ") ? 1 : 0;
            fault("s2 2" + token, 4 + place);
            fault("l0 1" + token, 4 + place);
            fault("m5" + token, 2 + place);
            fault("b0" + token, 2 + place);
        }
        fault(";", 0);
        fault("m5;;", 3);
        fault("1;", 0);
        fault("m5;1;", 3);
    }

    private static void firstFaultCounts() {
        fault("m4;x", 1);
        fault("x;m4;", 0);
        fault("s7 3;", 1);
        fault("l4 0;", 1);
        fault("l0 0 100", 3);
        fault("m5;m100;", 3);
        fault("m5 00", 3);
        fault("m100", 1);
        fault("m4", 1);
        fault("b4", 1);
    }

    /** "(Read anew: as told, SEASON 0, nothing WORN, no HOLLOWS, IMAGES are gone.)" */
    private static void toldAnew() {
        for (String text : new String[] {"", "s2 1;", "s6 2;l11 9;m5;b11;", "l3 4;", "m99;"}) {
            QuarterTurns x = Due.made("s5 2;l9 9;l3 4;m40;b9;");
            Due.seasons(x, 3);
            x.makes(6);
            x.season();
            x.stuffs(1);
            x.keep(0);
            x.keep(1);
            x.hollows(0, 9, 27);
            Due.bed(x, text);
            DUE.holds("told anew by '" + text + "'", Seen.of(x).equals(Seen.of(Due.made(text))));
        }
        QuarterTurns y = Due.made("l0 9;m5;");
        y.season();
        DUE.is("WORN OUT", y.season(), QuarterTurns.STATE);
        Due.bed(y, "l0 9;m5;");
        DUE.is("not WORN OUT any more", y.season(), 9);
        for (int i = 0; i < 5; i++) {
            y.hollows(0, 0, 0);
        }
        Due.bed(y, "m5;");
        DUE.is("HOLLOWS are not full any more", y.hollows(0, 0, 0), 1);
    }
}

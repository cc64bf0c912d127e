/** Compares answers with those that are due, for the tests of this folder. */
final class Due {
    private final String test;
    private int asked;
    private int wrong;

    Due(String test) {
        this.test = test;
    }

    void is(String call, long got, long want) {
        asked++;
        if (got != want) {
            wrong++;
            System.out.println(test + ": " + call + " answered " + got + ", due is " + want);
        }
    }

    void holds(String what, boolean so) {
        is(what, so ? 1 : 0, 1);
    }

    /** Ends the test, with exit code 1 if an answer was not as due. */
    void end() {
        System.out.println(test + ": " + asked + " answers, " + wrong + " not as due");
        if (wrong != 0 || asked == 0) {
            System.exit(1);
        }
    }

    static void type(QuarterTurns x, String text) {
        for (int i = 0; i < text.length(); i++) {
            x.type(text.charAt(i));
        }
    }

    /** Tells a text and answers what bed() does. */
    static int bed(QuarterTurns x, String text) {
        type(x, text);
        return x.bed();
    }

    static QuarterTurns made(String text) {
        QuarterTurns x = new QuarterTurns();
        bed(x, text);
        return x;
    }

    static void seasons(QuarterTurns x, int n) {
        for (int i = 0; i < n; i++) {
            x.season();
        }
    }
}

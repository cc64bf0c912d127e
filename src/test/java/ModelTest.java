import java.util.Random;

/** All promises: runs of calls by chance (the same ones each time), each answer compared with the model's. */
public final class ModelTest {
    private static final int RUNS = 600;
    private static final int CALLS = 500;
    private static final String SIGNS = "sslmb;;;  0123456789xS\t";
    private static final Due DUE = new Due("ModelTest");

    private final Random random;
    private final QuarterTurns x = new QuarterTurns();
    private final Model m = new Model();
    private final String run;

    private ModelTest(int seed) {
        random = new Random(seed);
        run = "run " + seed + ": ";
    }

    public static void main(String[] args) {
        for (int seed = 0; seed < RUNS; seed++) {
            new ModelTest(seed).go();
        }
        DUE.end();
    }

    private void go() {
        int calls = random.nextInt(4) == 0 ? 0 : tell(goodText());
        while (calls < CALLS) {
            int dice = random.nextInt(1000);
            if (dice < 3) {
                calls += tell(goodText());
            } else if (dice < 8) {
                calls += tell(anyText());
            } else {
                call(dice % 40);
                calls++;
            }
        }
    }

    private int below(int n) {
        return random.nextInt(n);
    }

    /** Mostly a number below n, now and then one that is not. */
    private int near(int n) {
        int dice = below(60);
        if (dice == 0) {
            return -1;
        }
        if (dice == 1) {
            return n;
        }
        return dice == 2 ? random.nextInt() : below(n);
    }

    private int way() {
        return near(m.count(2));
    }

    private int set() {
        return below(3) == 0 ? 1 << below(m.count(2)) | 1 << below(m.count(2)) : near(1 << m.count(2));
    }

    private String goodText() {
        StringBuilder text = new StringBuilder();
        int ways = 4;
        if (below(5) != 0) {
            int steps = 2 + below(5);
            int covers = 1 + below(2);
            ways = steps * covers;
            text.append("s").append(steps).append(' ').append(covers).append(';');
        }
        int most = 1 + below(9);
        boolean alike = below(6) == 0;
        for (int w = 0; alike && w < ways; w++) {
            text.append('l').append(w).append(' ').append(most).append(';');
        }
        for (int i = below(alike ? 3 : 14); i > 0; i--) {
            text.append('l').append(below(ways)).append(' ').append(1 + below(most)).append(';');
        }
        if (below(3) != 0) {
            text.append(below(2) == 0 ? "m" : " m ").append(5 + below(below(2) == 0 ? 95 : 20)).append(" ;");
        }
        if (below(2) == 0) {
            text.append('b').append(below(ways)).append("; ");
        }
        return text.toString();
    }

    private String anyText() {
        StringBuilder text = new StringBuilder(goodText());
        for (int i = 1 + below(3); i > 0 && text.length() > 0; i--) {
            int at = below(text.length());
            char sign = SIGNS.charAt(below(SIGNS.length()));
            switch (below(4)) {
                case 0 -> text.setCharAt(at, sign);
                case 1 -> text.insert(at, sign);
                case 2 -> text.deleteCharAt(at);
                default -> text.setLength(at);
            }
        }
        return text.toString();
    }

    private int tell(String text) {
        DUE.is(run + "clear()", x.clear(), m.clear());
        for (int i = 0; i < text.length(); i++) {
            DUE.is(run + "type", x.type(text.charAt(i)), m.type(text.charAt(i)));
        }
        DUE.is(run + "bed() of '" + text + "'", x.bed(), m.bed());
        return 2 + text.length();
    }

    private void call(int dice) {
        if (dice < 16) {
            done(dice);
        } else if (dice < 24) {
            turns(dice);
        } else if (dice < 32) {
            wear(dice);
        } else {
            others(dice);
        }
    }

    private void done(int dice) {
        int w = way();
        switch (dice) {
            case 0, 1, 2, 3, 4, 5 -> DUE.is(run + "season()", x.season(), m.season());
            case 6, 7, 8, 9 -> DUE.is(run + "makes(" + w + ")", x.makes(w), m.makes(w));
            case 10, 11 -> DUE.is(run + "stuffs(" + w + ")", x.stuffs(w), m.stuffs(w));
            case 12 -> DUE.is(run + "undo()", x.undo(), m.undo());
            case 13 -> {
                int what = near(4);
                DUE.is(run + "lie(" + w + ", " + what + ")", x.lie(w, what), m.lie(w, what));
            }
            default -> {
                int what = near(7);
                DUE.is(run + "now(" + what + ")", x.now(what), m.now(what));
            }
        }
    }

    private void turns(int dice) {
        int t = way();
        int set = set();
        switch (dice) {
            case 16 -> {
                int w = way();
                DUE.is(run + "turned(" + w + ", " + t + ")", x.turned(w, t), m.turned(w, t));
            }
            case 17 -> DUE.is(run + "again(" + t + ")", x.again(t), m.again(t));
            case 18 -> DUE.is(run + "all()", x.all(), m.all());
            case 19 -> {
                int what = near(2);
                DUE.is(run + "byTurns(" + what + ")", x.byTurns(what), m.byTurns(what));
            }
            case 20 -> DUE.is(run + "reach(" + set + ")", x.reach(set), m.reach(set));
            case 21 -> DUE.is(run + "same()", x.same(), m.same());
            default -> {
                int k = near(m.count(2));
                DUE.is(run + "round(" + set + ", " + k + ")", x.round(set, k), m.round(set, k));
            }
        }
    }

    private void wear(int dice) {
        int t = way();
        switch (dice) {
            case 24, 25 -> DUE.is(run + "lasts(" + t + ")", x.lasts(t), m.lasts(t));
            case 26 -> DUE.is(run + "latest()", x.latest(), m.latest());
            case 27 -> DUE.is(run + "most()", x.most(), m.most());
            case 28, 29 -> {
                int n = near(5);
                int k = near(5) - 1;
                DUE.is(run + "plan(" + n + ", " + k + ")", x.plan(n, k), m.plan(n, k));
            }
            default -> {
                int odds = near(11);
                int n = near(7);
                int w = way();
                int what = near(2);
                String call = "odds(" + t + ", " + odds + ", " + n + ", " + w + ", " + what + ")";
                DUE.is(run + call, x.odds(t, odds, n, w, what), m.odds(t, odds, n, w, what));
            }
        }
    }

    private void others(int dice) {
        int w = way();
        int image = near(2);
        switch (dice) {
            case 32 -> {
                // Mostly what may be so, or WHICH would always be 0.
                int k = below(3) == 0 ? near(41) : below(4);
                int v = isKnown(w) && below(8) != 0 ? m.lie(w, 3) + below(3) * m.lie(w, 2) : near(1000);
                DUE.is(run + "hollows(" + k + ", " + w + ", " + v + ")", x.hollows(k, w, v), m.hollows(k, w, v));
            }
            case 33, 34 -> DUE.is(run + "which()", x.which(), m.which());
            case 35 -> {
                if (below(3) == 0) {
                    DUE.is(run + "forget()", x.forget(), m.forget());
                }
            }
            case 36, 37 -> {
                int kind = near(6);
                DUE.is(run + "rate(" + kind + ", " + w + ")", x.rate(kind, w), m.rate(kind, w));
            }
            case 38 -> {
                if (below(2) == 0) {
                    DUE.is(run + "keep(" + image + ")", x.keep(image), m.keep(image));
                } else {
                    DUE.is(run + "back(" + image + ")", x.back(image), m.back(image));
                }
            }
            default -> {
                int what = near(6);
                DUE.is(run + "count(" + what + ")", x.count(what), m.count(what));
                DUE.is(run + "trace()", x.trace(), m.trace());
            }
        }
    }

    private boolean isKnown(int w) {
        return w >= 0 && w < m.count(2);
    }
}

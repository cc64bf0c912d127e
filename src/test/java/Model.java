import java.math.BigInteger;
import java.util.ArrayDeque;
import java.util.ArrayList;
import java.util.Arrays;
import java.util.Deque;
import java.util.List;
import java.util.function.IntUnaryOperator;
import java.util.regex.Matcher;
import java.util.regex.Pattern;

/** The document done over by trying everything out, season by season and row by row: slow, and made to be compared with. */
final class Model {
    private record Now(int way, int season, int turns, int[] worn) {
    }

    private record Token(int place, String letters) {
    }

    private static final Pattern TOKENS = Pattern.compile("[0-9]+|[^ ]", Pattern.DOTALL);

    private String text = "";
    private int steps = 2;
    private int covers = 2;
    private int limit = 20;
    private int[] loads = {1, 1, 1, 1};
    private Now now = new Now(0, 0, 0, new int[4]);
    private final Deque<Now> undone = new ArrayDeque<>();
    private final Now[] images = new Now[2];
    private final List<int[]> hollows = new ArrayList<>();
    private long trace;

    private int ways() {
        return steps * covers;
    }

    private boolean isWay(int w) {
        return 0 <= w && w < ways();
    }

    int type(int letter) {
        if (letter < 0 || letter > 255) {
            return -1;
        }
        if (text.length() == 200) {
            return -3;
        }
        text += (char) letter;
        return text.length();
    }

    int clear() {
        int had = text.length();
        text = "";
        return had;
    }

    int bed() {
        List<Token> tokens = new ArrayList<>();
        Matcher m = TOKENS.matcher(text);
        while (m.find()) {
            tokens.add(new Token(m.start(), m.group()));
        }
        tokens.add(new Token(text.length(), ""));
        int newSteps = 2;
        int newCovers = 2;
        Integer newLimit = null;
        Integer newWay = null;
        int[] newLoads = new int[12];
        Arrays.fill(newLoads, 1);
        int items = 0;
        int i = 0;
        while (!tokens.get(i).letters().isEmpty()) {
            String letter = tokens.get(i).letters();
            boolean stands = switch (letter) {
                case "s" -> items == 0;
                case "l" -> true;
                case "m" -> newLimit == null;
                case "b" -> newWay == null;
                default -> false;
            };
            if (!stands) {
                return -10 - tokens.get(i).place();
            }
            int last = newSteps * newCovers - 1;
            int[] lows = switch (letter) {
                case "s" -> new int[] {2, 6, 1, 2};
                case "l" -> new int[] {0, last, 1, 9};
                case "m" -> new int[] {5, 99};
                default -> new int[] {0, last};
            };
            int[] values = new int[2];
            for (int n = 0; 2 * n < lows.length; n++) {
                i++;
                int value = numberOf(tokens.get(i).letters());
                if (value < lows[2 * n] || value > lows[2 * n + 1]) {
                    return -10 - tokens.get(i).place();
                }
                values[n] = value;
            }
            i++;
            if (!tokens.get(i).letters().equals(";")) {
                return -10 - tokens.get(i).place();
            }
            i++;
            items++;
            switch (letter) {
                case "s" -> {
                    newSteps = values[0];
                    newCovers = values[1];
                }
                case "l" -> newLoads[values[0]] = values[1];
                case "m" -> newLimit = values[0];
                default -> newWay = values[0];
            }
        }
        steps = newSteps;
        covers = newCovers;
        limit = newLimit == null ? 20 : newLimit;
        loads = Arrays.copyOf(newLoads, ways());
        now = new Now(newWay == null ? 0 : newWay, 0, 0, new int[ways()]);
        undone.clear();
        hollows.clear();
        Arrays.fill(images, null);
        text = "";
        return items;
    }

    private static int numberOf(String letters) {
        return letters.matches("[0-9]|[1-9][0-9]") ? Integer.parseInt(letters) : -1;
    }

    int lie(int w, int what) {
        if (!isWay(w) || what < 0 || what > 3) {
            return -1;
        }
        return new int[] {w % steps, w / steps, loads[w], now.worn()[w]}[what];
    }

    int turned(int w, int t) {
        if (!isWay(w) || !isWay(t)) {
            return -1;
        }
        int r = w % steps;
        int f = w / steps;
        int s = t % steps;
        int g = t / steps;
        return steps * ((f + g) % 2) + Math.floorMod(f == 0 ? r + s : r - s, steps);
    }

    private boolean wornOut(int[] worn) {
        return Arrays.stream(worn).anyMatch(v -> v >= limit);
    }

    private static int greatest(int[] worn) {
        return Arrays.stream(worn).max().getAsInt();
    }

    int now(int what) {
        return switch (what) {
            case 0 -> now.season();
            case 1 -> now.way();
            case 2 -> now.turns();
            case 3 -> wornOut(now.worn()) ? 1 : 0;
            case 4 -> greatest(now.worn());
            case 5 -> Arrays.stream(now.worn()).sum();
            case 6 -> undone.size();
            default -> -1;
        };
    }

    private void become(Now next) {
        undone.addLast(now);
        if (undone.size() > 10) {
            undone.removeFirst();
        }
        now = next;
    }

    private int[] wornMore(int[] worn, int way) {
        int[] more = worn.clone();
        more[way] = Math.min(999, more[way] + loads[way]);
        return more;
    }

    int season() {
        if (wornOut(now.worn()) || now.season() == 999) {
            return -2;
        }
        become(new Now(now.way(), now.season() + 1, now.turns(), wornMore(now.worn(), now.way())));
        return now.worn()[now.way()];
    }

    int makes(int t) {
        if (!isWay(t)) {
            return -1;
        }
        become(new Now(turned(now.way(), t), now.season(), Math.min(9999, now.turns() + 1), now.worn()));
        return now.way();
    }

    int stuffs(int w) {
        if (!isWay(w)) {
            return -1;
        }
        int till = now.worn()[w];
        int[] less = now.worn().clone();
        less[w] = 0;
        become(new Now(now.way(), now.season(), now.turns(), less));
        return till;
    }

    int undo() {
        if (undone.isEmpty()) {
            return -2;
        }
        now = undone.removeLast();
        return undone.size();
    }

    int again(int t) {
        if (!isWay(t)) {
            return -1;
        }
        int[] at = new int[ways()];
        Arrays.setAll(at, w -> w);
        int times = 0;
        boolean home;
        do {
            home = true;
            for (int w = 0; w < at.length; w++) {
                at[w] = turned(at[w], t);
                home &= at[w] == w;
            }
            times++;
        } while (!home);
        return times;
    }

    private boolean throughAll(int turns, IntUnaryOperator turnAt) {
        boolean[] seen = new boolean[ways()];
        int way = now.way();
        seen[way] = true;
        for (int i = 0; i < turns; i++) {
            way = turned(way, turnAt.applyAsInt(i));
            seen[way] = true;
        }
        for (boolean s : seen) {
            if (!s) {
                return false;
            }
        }
        return true;
    }

    int all() {
        int bits = 0;
        for (int t = 0; t < ways(); t++) {
            int turn = t;
            if (throughAll(100, i -> turn)) {
                bits |= 1 << t;
            }
        }
        return bits;
    }

    int byTurns(int what) {
        if (what < 0 || what > 1) {
            return -1;
        }
        List<Integer> found = new ArrayList<>();
        for (int a = 0; a < ways(); a++) {
            for (int b = 0; b < ways(); b++) {
                int first = a;
                int second = b;
                if (a != b && throughAll(2 * ways(), i -> i % 2 == 0 ? first : second)) {
                    found.add(100 * a + b);
                }
            }
        }
        return what == 0 ? found.size() : found.isEmpty() ? -9 : found.get(0);
    }

    int reach(int set) {
        if (set < 0 || set >= 1 << ways()) {
            return -1;
        }
        boolean[] seen = new boolean[ways()];
        spread(now.way(), set, seen);
        int bits = 0;
        for (int w = 0; w < ways(); w++) {
            bits |= seen[w] ? 1 << w : 0;
        }
        return bits;
    }

    private void spread(int way, int set, boolean[] seen) {
        if (!seen[way]) {
            seen[way] = true;
            for (int t = 0; t < ways(); t++) {
                if ((set & 1 << t) != 0) {
                    spread(turned(way, t), set, seen);
                }
            }
        }
    }

    int round(int set, int k) {
        if (set < 0 || set >= 1 << ways() || k < 0) {
            return -1;
        }
        int full = (1 << ways()) - 1;
        // homeFrom[seen][way]: whether it can come through the WAYS not seen, each once, and home.
        boolean[][] homeFrom = new boolean[full + 1][ways()];
        for (int seen = full; seen > 0; seen--) {
            for (int way = 0; way < ways(); way++) {
                for (int t = 0; t < ways(); t++) {
                    int to = turned(way, t);
                    boolean on = seen == full ? to == now.way() : (seen & 1 << to) == 0 && homeFrom[seen | 1 << to][to];
                    homeFrom[seen][way] |= on && (set & 1 << t) != 0;
                }
            }
        }
        int way = now.way();
        int seen = 1 << way;
        if (!homeFrom[seen][way]) {
            return -9;
        }
        for (int i = 0; i < ways(); i++) {
            for (int t = 0; t < ways(); t++) {
                int to = turned(way, t);
                boolean on = seen == full ? to == now.way() : (seen & 1 << to) == 0 && homeFrom[seen | 1 << to][to];
                if (on && (set & 1 << t) != 0) {
                    if (i == k) {
                        return t;
                    }
                    way = to;
                    seen |= 1 << to;
                    break;
                }
            }
        }
        return -5;
    }

    int same() {
        int many = 0;
        for (int a = 0; a < ways(); a++) {
            for (int b = 0; b < a; b++) {
                boolean alike = true;
                for (int w = 0; w < ways(); w++) {
                    alike &= turned(turned(w, a), b) == turned(turned(w, b), a);
                }
                many += alike ? 1 : 0;
            }
        }
        return many;
    }

    int lasts(int t) {
        if (!isWay(t)) {
            return -1;
        }
        int[] worn = now.worn();
        int way = now.way();
        int seasons = 0;
        while (!wornOut(worn)) {
            way = turned(way, t);
            worn = wornMore(worn, way);
            seasons++;
        }
        return seasons;
    }

    int latest() {
        int best = 0;
        for (int t = 0; t < ways(); t++) {
            best = lasts(t) > lasts(best) ? t : best;
        }
        return best;
    }

    int plan(int n, int k) {
        if (n < 1 || n > 4 || k < -1 || k > 3) {
            return -1;
        }
        int rows = (int) Math.pow(ways(), n);
        int least = Integer.MAX_VALUE;
        int[] best = null;
        for (int number = 0; number < rows; number++) {
            int[] row = new int[n];
            int left = number;
            for (int i = n - 1; i >= 0; i--) {
                row[i] = left % ways();
                left /= ways();
            }
            int[] worn = now.worn();
            int way = now.way();
            for (int t : row) {
                way = turned(way, t);
                worn = wornMore(worn, way);
            }
            if (greatest(worn) < least) {
                least = greatest(worn);
                best = row;
            }
        }
        return k < 0 ? least : k < n ? best[k] : -9;
    }

    int most() {
        int[] worn = now.worn();
        int seasons = 0;
        while (!wornOut(worn)) {
            int[] next = wornMore(worn, 0);
            for (int w = 1; w < ways() && wornOut(next); w++) {
                next = wornMore(worn, w);
            }
            worn = next;
            seasons++;
        }
        return seasons;
    }

    int hollows(int k, int w, int v) {
        if (k < 0 || k > 40 || !isWay(w) || v < 0 || v > 999) {
            return -1;
        }
        if (hollows.size() == 5) {
            return -3;
        }
        hollows.add(new int[] {k, w, v});
        return hollows.size();
    }

    int forget() {
        int had = hollows.size();
        hollows.clear();
        return had;
    }

    int which() {
        int bits = 0;
        for (int t = 0; t < ways(); t++) {
            boolean so = true;
            int[] worn = now.worn();
            int way = now.way();
            for (int k = 0; k <= 40; k++) {
                for (int[] h : hollows) {
                    so &= h[0] != k || worn[h[1]] == h[2];
                }
                way = turned(way, t);
                worn = wornMore(worn, way);
            }
            bits |= so ? 1 << t : 0;
        }
        return bits;
    }

    int odds(int t, int x, int n, int w, int what) {
        if (!isWay(t) || !isWay(w) || x < 0 || x > 10 || n < 0 || n > 6 || what < 0 || what > 1) {
            return -1;
        }
        BigInteger upper = BigInteger.valueOf(chances(now.way(), t, x, n, w));
        BigInteger lower = BigInteger.TEN.pow(n);
        return (what == 0 ? upper : lower).divide(upper.gcd(lower)).intValueExact();
    }

    private long chances(int way, int t, int x, int n, int w) {
        if (n == 0) {
            return way == w ? 1 : 0;
        }
        return x * chances(way, t, x, n - 1, w) + (10 - x) * chances(turned(way, t), t, x, n - 1, w);
    }

    int rate(int kind, int w) {
        if (kind < 0 || kind > 5 || !isWay(w)) {
            return -1000000;
        }
        int[] above = {-1, 0, 0, 1, 2, 0};
        int[] trail = {1, 10, 100, 1000, 10000, 100000};
        trace += trail[kind];
        int up = kind == 0 ? 0 : rate(above[kind], w);
        return switch (kind) {
            case 0 -> now.worn()[w];
            case 1 -> up + loads[w];
            case 2 -> up - again(w);
            case 3 -> up + up;
            case 4 -> up + w;
            default -> up + now.season();
        };
    }

    int keep(int image) {
        if (image < 0 || image > 1) {
            return -1;
        }
        images[image] = now;
        return now.season();
    }

    int back(int image) {
        if (image < 0 || image > 1) {
            return -1;
        }
        if (images[image] == null) {
            return -2;
        }
        now = images[image];
        undone.clear();
        return now.season();
    }

    int count(int what) {
        return switch (what) {
            case 0 -> steps;
            case 1 -> covers;
            case 2 -> ways();
            case 3 -> limit;
            case 4 -> hollows.size();
            case 5 -> text.length();
            default -> -1;
        };
    }

    long trace() {
        return trace;
    }
}

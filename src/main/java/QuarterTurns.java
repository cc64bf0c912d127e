import java.util.Arrays;

/**
 * A mattress, a cushion or a wheel that is turned so that it wears alike. The words in capitals
 * (WAY, TURN, WORN ..) are those of the document.
 */
public final class QuarterTurns {
    public static final int BAD = -1, STATE = -2, FULL = -3, NONE = -9;
    public static final int NO = -1000000;

    private static final int NOT_SO_MANY = -5;
    private static final int FAULT_BASE = -10;
    private static final int MOST_LETTERS = 200;
    private static final int MOST_STEPS = 6;
    private static final int MOST_COVERS = 2;
    private static final int MOST_WAYS = 12;
    private static final int MOST_WORN = 999;
    private static final int LAST_SEASON = 999;
    private static final int MOST_TURNS = 9999;
    private static final int MOST_UNDONE = 10;
    private static final int MOST_PLANNED = 4;
    private static final int MOST_HOLLOWS = 5;
    private static final int MOST_AHEAD = 40;
    private static final int MOST_ODDS = 6;
    private static final int IMAGES = 2;

    private final Text text;
    private final Reader reader;
    private final Bed bed;
    private final Lying lying;
    private final Past past;
    private final Rounds rounds;
    private final Wear wear;
    private final Hollows hollows;
    private final Lying[] images;
    private final boolean[] imageKept;
    private long traced;

    public QuarterTurns() {
        text = new Text();
        reader = new Reader(text);
        bed = new Bed();
        lying = new Lying();
        past = new Past();
        rounds = new Rounds(bed);
        wear = new Wear(bed, lying);
        hollows = new Hollows();
        images = new Lying[IMAGES];
        for (int i = 0; i < IMAGES; i++) {
            images[i] = new Lying();
        }
        imageKept = new boolean[IMAGES];
        traced = 0L;
    }

    // ---- the bed

    public int type(int letter) {
        if (letter < 0 || letter > 255) {
            return BAD;
        }
        return text.add(letter) ? text.length : FULL;
    }

    public int clear() {
        return text.empty();
    }

    public int bed() {
        int answer = reader.read();
        if (answer >= 0) {
            bed.copy(reader.told);
            text.empty();
            startAnew();
        }
        return answer;
    }

    public int lie(int w, int what) {
        if (!bed.has(w)) {
            return BAD;
        }
        switch (what) {
            case 0:
                return bed.stepOf(w);
            case 1:
                return bed.coverOf(w);
            case 2:
                return bed.loads[w];
            case 3:
                return lying.worn[w];
            default:
                return BAD;
        }
    }

    public int turned(int w, int t) {
        return bed.has(w) && bed.has(t) ? bed.from(w, t) : BAD;
    }

    public int now(int what) {
        switch (what) {
            case 0:
                return lying.seasons;
            case 1:
                return lying.way;
            case 2:
                return lying.turns;
            case 3:
                return wear.isOut() ? 1 : 0;
            case 4:
                return lying.greatest();
            case 5:
                return lying.together();
            case 6:
                return past.size;
            default:
                return BAD;
        }
    }

    // ---- what is done

    public int season() {
        if (wear.isOut() || lying.seasons >= LAST_SEASON) {
            return STATE;
        }
        past.remember(lying);
        int w = lying.way;
        lying.worn[w] = Math.min(MOST_WORN, lying.worn[w] + bed.loads[w]);
        lying.seasons++;
        return lying.worn[w];
    }

    public int makes(int t) {
        if (!bed.has(t)) {
            return BAD;
        }
        past.remember(lying);
        lying.way = bed.from(lying.way, t);
        lying.turns = Math.min(MOST_TURNS, lying.turns + 1);
        return lying.way;
    }

    public int stuffs(int w) {
        if (!bed.has(w)) {
            return BAD;
        }
        past.remember(lying);
        int before = lying.worn[w];
        lying.worn[w] = 0;
        return before;
    }

    public int undo() {
        return past.restore(lying) ? past.size : STATE;
    }

    // ---- turns

    public int again(int t) {
        return bed.has(t) ? bed.orderOf(t) : BAD;
    }

    public int all() {
        int bits = 0;
        for (int t = 0; t < bed.ways; t++) {
            // A TURN comes through as many WAYS as it takes to be as if nothing were done.
            if (bed.orderOf(t) == bed.ways) {
                bits |= 1 << t;
            }
        }
        return bits;
    }

    public int byTurns(int what) {
        if (what != 0 && what != 1) {
            return BAD;
        }
        int many = 0;
        int first = NONE;
        for (int a = 0; a < bed.ways; a++) {
            for (int b = 0; b < bed.ways; b++) {
                if (a != b && bed.comesThroughAll(lying.way, a, b)) {
                    first = many == 0 ? 100 * a + b : first;
                    many++;
                }
            }
        }
        return what == 0 ? many : first;
    }

    public int reach(int set) {
        return bed.hasSet(set) ? bed.reached(lying.way, set) : BAD;
    }

    public int round(int set, int k) {
        if (!bed.hasSet(set) || k < 0) {
            return BAD;
        }
        if (!rounds.find(lying.way, set)) {
            return NONE;
        }
        return k < bed.ways ? rounds.row[k] : NOT_SO_MANY;
    }

    public int same() {
        int many = 0;
        for (int a = 0; a < bed.ways; a++) {
            for (int b = a + 1; b < bed.ways; b++) {
                // Two rows of TURNS that come to the same from one WAY do so from every WAY.
                if (bed.from(bed.from(0, a), b) == bed.from(bed.from(0, b), a)) {
                    many++;
                }
            }
        }
        return many;
    }

    // ---- wear

    public int lasts(int t) {
        return bed.has(t) ? wear.seasonsBy(t) : BAD;
    }

    public int latest() {
        int best = 0;
        int longest = wear.seasonsBy(0);
        for (int t = 1; t < bed.ways; t++) {
            int seasons = wear.seasonsBy(t);
            if (seasons > longest) {
                longest = seasons;
                best = t;
            }
        }
        return best;
    }

    public int plan(int n, int k) {
        if (n < 1 || n > MOST_PLANNED || k < -1 || k >= MOST_PLANNED) {
            return BAD;
        }
        int least = wear.leastGreatest(n);
        if (k < 0) {
            return least;
        }
        return k < n ? wear.plannedTurn(least, k) : NONE;
    }

    public int most() {
        return wear.isOut() ? 0 : wear.room(bed.limit - 1) + 1;
    }

    // ---- hollows, odds

    public int hollows(int k, int w, int v) {
        if (k < 0 || k > MOST_AHEAD || !bed.has(w) || v < 0 || v > MOST_WORN) {
            return BAD;
        }
        return hollows.add(k, w, v) ? hollows.size : FULL;
    }

    public int forget() {
        int before = hollows.size;
        hollows.size = 0;
        return before;
    }

    public int which() {
        int bits = 0;
        for (int t = 0; t < bed.ways; t++) {
            if (hollows.allSoBy(t, wear)) {
                bits |= 1 << t;
            }
        }
        return bits;
    }

    public int odds(int t, int x, int n, int w, int what) {
        if (!bed.has(t) || !bed.has(w) || x < 0 || x > 10 || n < 0 || n > MOST_ODDS) {
            return BAD;
        }
        if (what != 0 && what != 1) {
            return BAD;
        }
        int upper = chances(t, x, n, w);
        int lower = power(10, n);
        int shared = commonDivisor(upper, lower);
        if (shared < 1) {
            return BAD;
        }
        return (what == 0 ? upper : lower) / shared;
    }

    // ---- kinds, images

    public int rate(int kind, int w) {
        if (!bed.has(w)) {
            return NO;
        }
        switch (kind) {
            case 0:
                return asWay(w);
            case 1:
                return asEnd(w);
            case 2:
                return asSide(w);
            case 3:
                return asHead(w);
            case 4:
                return asFoot(w);
            case 5:
                return asHollow(w);
            default:
                return NO;
        }
    }

    public int keep(int image) {
        if (image < 0 || image >= IMAGES) {
            return BAD;
        }
        images[image].copy(lying);
        imageKept[image] = true;
        return lying.seasons;
    }

    public int back(int image) {
        if (image < 0 || image >= IMAGES) {
            return BAD;
        }
        if (!imageKept[image]) {
            return STATE;
        }
        lying.copy(images[image]);
        past.size = 0;
        return lying.seasons;
    }

    public int count(int what) {
        switch (what) {
            case 0:
                return bed.steps;
            case 1:
                return bed.covers;
            case 2:
                return bed.ways;
            case 3:
                return bed.limit;
            case 4:
                return hollows.size;
            case 5:
                return text.length;
            default:
                return BAD;
        }
    }

    public long trace() {
        return traced;
    }

    // THE TRACE tells how often rate() asked each KIND, not how the bed is: it stays.
    private void startAnew() {
        lying.restart(bed.start);
        past.size = 0;
        hollows.size = 0;
        for (int i = 0; i < IMAGES; i++) {
            imageKept[i] = false;
        }
    }

    private int asWay(int w) {
        traced += 1L;
        return lying.worn[w];
    }

    private int asEnd(int w) {
        traced += 10L;
        return asWay(w) + bed.loads[w];
    }

    private int asSide(int w) {
        traced += 100L;
        return asWay(w) - bed.orderOf(w);
    }

    private int asHead(int w) {
        traced += 1000L;
        return 2 * asEnd(w);
    }

    private int asFoot(int w) {
        traced += 10000L;
        return asSide(w) + w;
    }

    private int asHollow(int w) {
        traced += 100000L;
        return asWay(w) + lying.seasons;
    }

    /** Of 10 to the power n chances, those by which it LIES in w behind n SEASONS. */
    private int chances(int t, int x, int n, int w) {
        int sum = 0;
        int rows = 1;
        int way = lying.way;
        for (int made = 0; made <= n; made++) {
            if (way == w) {
                sum += rows * power(10 - x, made) * power(x, n - made);
            }
            way = bed.from(way, t);
            rows = rows * (n - made) / (made + 1);
        }
        return sum;
    }

    private static int power(int base, int exponent) {
        int product = 1;
        for (int i = 0; i < exponent; i++) {
            product *= base;
        }
        return product;
    }

    private static int commonDivisor(int a, int b) {
        int larger = a;
        int smaller = b;
        // Numbers up to a million need some thirty divisions at most.
        for (int i = 0; i < 64 && smaller != 0; i++) {
            int left = larger % smaller;
            larger = smaller;
            smaller = left;
        }
        return larger;
    }

    /** THE TEXT, letter by letter. */
    private static final class Text {
        final int[] letters = new int[MOST_LETTERS];
        int length;

        boolean add(int letter) {
            if (length >= MOST_LETTERS) {
                return false;
            }
            letters[length] = letter;
            length++;
            return true;
        }

        int empty() {
            int before = length;
            length = 0;
            return before;
        }

        /** Where the row of digits at a place ends: at the place itself, if there is none. */
        int behindDigits(int place) {
            int end = place;
            while (end < length && letters[end] >= '0' && letters[end] <= '9') {
                end++;
            }
            return end;
        }
    }

    /** How a thing is made: its STEPS, COVERS, LOADS, LIMIT, and what TURNS do to it. */
    private static final class Bed {
        int steps;
        int covers;
        int ways;
        int limit;
        int start;
        final int[] loads = new int[MOST_WAYS];

        Bed() {
            reset();
        }

        void reset() {
            shape(2, 2);
            limit = 20;
            start = 0;
            Arrays.fill(loads, 1);
        }

        void shape(int newSteps, int newCovers) {
            steps = newSteps;
            covers = newCovers;
            ways = newSteps * newCovers;
        }

        void copy(Bed other) {
            shape(other.steps, other.covers);
            limit = other.limit;
            start = other.start;
            System.arraycopy(other.loads, 0, loads, 0, MOST_WAYS);
        }

        boolean has(int way) {
            return way >= 0 && way < ways;
        }

        boolean hasSet(int set) {
            return set >= 0 && set <= allBits();
        }

        int allBits() {
            return (1 << ways) - 1;
        }

        int stepOf(int way) {
            return way < steps ? way : way - steps;
        }

        int coverOf(int way) {
            return way < steps ? 0 : 1;
        }

        /** The WAY that a TURN leads to. */
        int from(int way, int turn) {
            int by = stepOf(turn);
            int step = coverOf(way) == 0 ? stepOf(way) + by : stepOf(way) - by;
            if (step >= steps) {
                step -= steps;
            } else if (step < 0) {
                step += steps;
            }
            return coverOf(way) == coverOf(turn) ? step : steps + step;
        }

        /** AGAIN. A TURN that brings one WAY home brings every WAY home: one is enough to try. */
        int orderOf(int turn) {
            int way = from(0, turn);
            int times = 1;
            while (way != 0 && times < MOST_WAYS) {
                way = from(way, turn);
                times++;
            }
            return times;
        }

        boolean comesThroughAll(int home, int first, int second) {
            int way = home;
            int seen = 1 << home;
            for (int i = 0; i < 2 * ways; i++) {
                way = from(way, (i & 1) == 0 ? first : second);
                seen |= 1 << way;
            }
            return seen == allBits();
        }

        int reached(int home, int set) {
            int seen = 1 << home;
            int before = 0;
            for (int i = 0; i < ways && seen != before; i++) {
                before = seen;
                for (int way = 0; way < ways; way++) {
                    if ((before >> way & 1) != 0) {
                        seen |= oneTurnFrom(way, set);
                    }
                }
            }
            return seen;
        }

        private int oneTurnFrom(int way, int set) {
            int bits = 0;
            for (int t = 0; t < ways; t++) {
                if ((set >> t & 1) != 0) {
                    bits |= 1 << from(way, t);
                }
            }
            return bits;
        }
    }

    /** What IMAGES keep: the WAY, WORN, THE SEASON, TURNS made. */
    private static final class Lying {
        int way;
        int seasons;
        int turns;
        final int[] worn = new int[MOST_WAYS];

        void restart(int start) {
            way = start;
            seasons = 0;
            turns = 0;
            Arrays.fill(worn, 0);
        }

        void copy(Lying other) {
            way = other.way;
            seasons = other.seasons;
            turns = other.turns;
            System.arraycopy(other.worn, 0, worn, 0, MOST_WAYS);
        }

        int greatest() {
            int most = 0;
            for (int w = 0; w < MOST_WAYS; w++) {
                most = Math.max(most, worn[w]);
            }
            return most;
        }

        int together() {
            int sum = 0;
            for (int w = 0; w < MOST_WAYS; w++) {
                sum += worn[w];
            }
            return sum;
        }
    }

    /** What can be UNDONE: a ring, so that the oldest is lost when there are too many. */
    private static final class Past {
        final Lying[] ring = new Lying[MOST_UNDONE];
        int next;
        int size;

        Past() {
            for (int i = 0; i < MOST_UNDONE; i++) {
                ring[i] = new Lying();
            }
        }

        void remember(Lying lying) {
            ring[next].copy(lying);
            next = next + 1 < MOST_UNDONE ? next + 1 : 0;
            size = Math.min(MOST_UNDONE, size + 1);
        }

        boolean restore(Lying lying) {
            if (size == 0) {
                return false;
            }
            next = next > 0 ? next - 1 : MOST_UNDONE - 1;
            size--;
            lying.copy(ring[next]);
            return true;
        }
    }

    /** Reads THE TEXT into a bed of its own, so that a FAULT leaves the bed in use alone. */
    private static final class Reader {
        private static final int END = -1;
        private static final int NUMBER = -2;
        private static final int BROKEN = -3;
        private static final int BLANK = 32;
        private static final int MOST_NUMBER = 99;

        final Text text;
        final Bed told = new Bed();
        int place;
        int behind;
        int token;
        int number;
        int items;
        boolean limitTold;
        boolean startTold;

        Reader(Text text) {
            this.text = text;
        }

        /** How many ITEMS, or FAULT_BASE less FAULT. */
        int read() {
            told.reset();
            behind = 0;
            items = 0;
            limitTold = false;
            startTold = false;
            step();
            while (token != END && items < MOST_LETTERS) {
                if (!readItem()) {
                    return FAULT_BASE - place;
                }
                items++;
                step();
            }
            return items;
        }

        /** Goes to the next TOKEN; place is where its first letter is, or the text's length. */
        private void step() {
            place = behind;
            while (place < text.length && text.letters[place] == BLANK) {
                place++;
            }
            behind = text.behindDigits(place);
            if (place >= text.length) {
                token = END;
            } else if (behind > place) {
                readNumber();
            } else {
                token = text.letters[place];
                behind++;
            }
        }

        private void readNumber() {
            number = 0;
            // A long row of digits would not fit an int, and above 99 it is all the same.
            for (int i = place; i < behind && number <= MOST_NUMBER; i++) {
                number = 10 * number + text.letters[i] - '0';
            }
            boolean zeroAhead = text.letters[place] == '0' && behind - place > 1;
            token = zeroAhead || number > MOST_NUMBER ? BROKEN : NUMBER;
        }

        private boolean readItem() {
            switch (token) {
                case 's':
                    return items == 0 && readShape() && ends();
                case 'l':
                    return readLoad() && ends();
                case 'm':
                    return !limitTold && readLimit() && ends();
                case 'b':
                    return !startTold && readStart() && ends();
                default:
                    return false;
            }
        }

        private boolean readShape() {
            if (!isNumber(2, MOST_STEPS)) {
                return false;
            }
            int steps = number;
            if (!isNumber(1, MOST_COVERS)) {
                return false;
            }
            told.shape(steps, number);
            return true;
        }

        private boolean readLoad() {
            if (!isNumber(0, told.ways - 1)) {
                return false;
            }
            int way = number;
            if (!isNumber(1, 9)) {
                return false;
            }
            told.loads[way] = number;
            return true;
        }

        private boolean readLimit() {
            if (!isNumber(5, MOST_NUMBER)) {
                return false;
            }
            told.limit = number;
            limitTold = true;
            return true;
        }

        private boolean readStart() {
            if (!isNumber(0, told.ways - 1)) {
                return false;
            }
            told.start = number;
            startTold = true;
            return true;
        }

        private boolean isNumber(int least, int most) {
            step();
            return token == NUMBER && number >= least && number <= most;
        }

        private boolean ends() {
            step();
            return token == ';';
        }
    }

    /** Looks for a ROUND: the first row of TURNS through all WAYS, each once, and home. */
    private static final class Rounds {
        final Bed bed;
        final int[] row = new int[MOST_WAYS];
        int home;
        int set;

        Rounds(Bed bed) {
            this.bed = bed;
        }

        boolean find(int from, int turns) {
            home = from;
            set = turns;
            // Without all WAYS in reach there is none, and a search would only try all rows.
            return bed.reached(from, turns) == bed.allBits() && goOn(from, 1 << from, 0);
        }

        private boolean goOn(int way, int seen, int made) {
            if (made >= bed.ways) {
                return false;
            }
            boolean last = made == bed.ways - 1;
            for (int t = 0; t < bed.ways; t++) {
                if ((set >> t & 1) == 0) {
                    continue;
                }
                int to = bed.from(way, t);
                boolean fits = last ? to == home : (seen >> to & 1) == 0;
                if (!fits) {
                    continue;
                }
                row[made] = t;
                if (last || goOn(to, seen | 1 << to, made + 1)) {
                    return true;
                }
            }
            return false;
        }
    }

    /** How the bed wears in SEASONS to come. */
    private static final class Wear {
        final Bed bed;
        final Lying lying;
        final int[] planned = new int[MOST_WAYS];

        Wear(Bed bed, Lying lying) {
            this.bed = bed;
            this.lying = lying;
        }

        boolean isOut() {
            return lying.greatest() >= bed.limit;
        }

        /** LASTS: the TURN comes by each of its WAYS once in as many SEASONS as its AGAIN. */
        int seasonsBy(int turn) {
            if (isOut()) {
                return 0;
            }
            int period = bed.orderOf(turn);
            int way = bed.from(lying.way, turn);
            int least = period * visitsToLimit(way) - period + 1;
            for (int i = 2; i <= period; i++) {
                way = bed.from(way, turn);
                least = Math.min(least, period * visitsToLimit(way) - period + i);
            }
            return least;
        }

        private int visitsToLimit(int way) {
            return quotient(bed.limit - 1 - lying.worn[way], bed.loads[way]) + 1;
        }

        /** How many SEASONS can go by with no WORN above a mark: from any WAY one TURN leads to any. */
        int room(int mark) {
            int seasons = 0;
            for (int w = 0; w < bed.ways; w++) {
                seasons += quotient(mark - lying.worn[w], bed.loads[w]);
            }
            return seasons;
        }

        /** PLAN: the least mark that leaves room for n SEASONS. */
        int leastGreatest(int n) {
            int mark = lying.greatest();
            int highest = mark + 9 * MOST_PLANNED;
            while (mark < highest && room(mark) < n) {
                mark++;
            }
            return mark;
        }

        /** PLAN: each SEASON under the mark leaves room for the others, so the first TURN that does is right. */
        int plannedTurn(int mark, int k) {
            System.arraycopy(lying.worn, 0, planned, 0, MOST_WAYS);
            int way = lying.way;
            int turn = NONE;
            for (int i = 0; i <= k; i++) {
                turn = firstTurnUnder(mark, way);
                if (turn < 0) {
                    return NONE;
                }
                way = bed.from(way, turn);
                planned[way] += bed.loads[way];
            }
            return turn;
        }

        private int firstTurnUnder(int mark, int way) {
            for (int t = 0; t < bed.ways; t++) {
                int to = bed.from(way, t);
                if (planned[to] + bed.loads[to] <= mark) {
                    return t;
                }
            }
            return NONE;
        }

        /** WORN of a WAY in some SEASONS from NOW, a TURN made ahead of each. */
        int wornIn(int seasons, int w, int turn) {
            int period = bed.orderOf(turn);
            int way = lying.way;
            int visits = 0;
            for (int i = 1; i <= period && i <= seasons; i++) {
                way = bed.from(way, turn);
                if (way == w) {
                    visits = quotient(seasons - i, period) + 1;
                }
            }
            return Math.min(MOST_WORN, lying.worn[w] + visits * bed.loads[w]);
        }

        private static int quotient(int upper, int lower) {
            return lower > 0 ? upper / lower : 0;
        }
    }

    /** The HOLLOWS that are told; they are seen from NOW whenever they are asked. */
    private static final class Hollows {
        final int[] seasons = new int[MOST_HOLLOWS];
        final int[] ways = new int[MOST_HOLLOWS];
        final int[] values = new int[MOST_HOLLOWS];
        int size;

        boolean add(int k, int w, int v) {
            if (size >= MOST_HOLLOWS) {
                return false;
            }
            seasons[size] = k;
            ways[size] = w;
            values[size] = v;
            size++;
            return true;
        }

        boolean allSoBy(int turn, Wear wear) {
            for (int i = 0; i < size; i++) {
                if (wear.wornIn(seasons[i], ways[i], turn) != values[i]) {
                    return false;
                }
            }
            return true;
        }
    }
}

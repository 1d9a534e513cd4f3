/**
 * A bench that draws a state of a system just as likely as it should be, by running the highest and the
 * lowest state on the same lots from ever further back until they meet. ../shared/DOC.md says what each
 * call promises.
 */
public final class LongAgoDraws {
    public static final int NONE = -6, UNKNOWN = -1, OUTSIDE = -2, STATE = -3, FULL = -4, NO = -5;

    private static final int MOST_PLACES = 24, MOST_LINKS = 60, MOST_NEIGHBOURS = 6;
    private static final int MOST_TOP = 5, MOST_WEIGHT = 9, NOT_HELD = -1;
    private static final int NEEDLES = 0, HEIGHTS = 1, GUESTS = 2;
    private static final int LOTS = 65536, MOST_TICKS = 20000, MOST_BACK = 4096, MOST_DRAWS = 8;
    private static final int MOST_STATES = 5000, MOST_SMALL_LINKS = 12;
    private static final int GOES = 0, NOTHING_MET = 1;
    // The SEED may be any small number, so told() alone has an OUTSIDE of its own.
    private static final int NOT_TOLD = -2147483648;

    private final Net net;
    private final Rules rules;
    private final Ticks ticks;
    private final Draws draws;
    private final Small small;
    private final int[] hand;
    private int seed;

    public LongAgoDraws() {
        net = new Net();
        rules = new Rules(net);
        ticks = new Ticks(net, rules);
        draws = new Draws(net, rules, ticks);
        small = new Small(net, rules);
        hand = new int[MOST_PLACES];
        seed = 0;
    }

    // ---- 1 the system

    public int place(int top, int side) {
        if (top < 1 || top > MOST_TOP || side < 0 || side > 1) {
            return OUTSIDE;
        }
        if (net.places >= MOST_PLACES) {
            return FULL;
        }
        int number = net.addPlace(top, side);
        startAnew();
        return number;
    }

    public int link(int p, int q) {
        if (!net.has(p) || !net.has(q)) {
            return UNKNOWN;
        }
        if (net.links >= MOST_LINKS || net.isCrowded(p) || net.isCrowded(q)) {
            return FULL;
        }
        if (p == q || net.areLinked(p, q)) {
            return NO;
        }
        net.addLink(p, q);
        startAnew();
        return net.links;
    }

    public int kind(int kind, int u, int v) {
        if (kind < NEEDLES || kind > GUESTS || u < 1 || u > MOST_WEIGHT || v < 1 || v > MOST_WEIGHT) {
            return OUTSIDE;
        }
        rules.kind = kind;
        rules.u = u;
        rules.v = v;
        startAnew();
        return 1;
    }

    public int hold(int p, int x) {
        if (!net.has(p)) {
            return UNKNOWN;
        }
        if (x < NOT_HELD || x > net.top[p]) {
            return OUTSIDE;
        }
        int before = net.held[p];
        net.held[p] = x;
        startAnew();
        return before;
    }

    public int good() {
        return rules.isGood ? 1 : 0;
    }

    public int highest(int p) {
        if (!net.has(p)) {
            return UNKNOWN;
        }
        return rules.isGood ? rules.high[p] : NO;
    }

    public int lowest(int p) {
        if (!net.has(p)) {
            return UNKNOWN;
        }
        return rules.isGood ? rules.low[p] : NO;
    }

    // ---- 2 the state at hand

    public int at(int p) {
        return net.has(p) ? hand[p] : UNKNOWN;
    }

    public int put(int p, int x) {
        if (!net.has(p)) {
            return UNKNOWN;
        }
        if (x < 0 || x > net.top[p]) {
            return OUTSIDE;
        }
        int before = hand[p];
        hand[p] = x;
        // The whole STATE is looked at: where no STATE is ALLOWED, one that fits around p alone is not either.
        if (!rules.isAllowed(hand)) {
            hand[p] = before;
            return NO;
        }
        return before;
    }

    public int take(int which) {
        if (which < 0 || which > 2) {
            return OUTSIDE;
        }
        if (which == 2 && !draws.isKept) {
            return STATE;
        }
        if (!rules.isGood) {
            return NO;
        }
        copyRow(which == 0 ? rules.high : which == 1 ? rules.low : draws.kept, hand);
        return 1;
    }

    public int seed(int s) {
        int before = seed;
        seed = s;
        return before;
    }

    public int tick(int t, int what) {
        if (what < 0 || what > 1) {
            return OUTSIDE;
        }
        if (net.places == 0) {
            return STATE;
        }
        int mixed = Ticks.mixed(seed, t);
        return what == 0 ? ticks.placeOf(mixed) : Ticks.lotOf(mixed);
    }

    public int run(int t, int e) {
        long length = (long) e - t;
        if (length < 0 || length > MOST_TICKS) {
            return OUTSIDE;
        }
        if (!rules.isGood) {
            return NO;
        }
        int changes = 0;
        for (int i = 0; i < length; i++) {
            if (ticks.changes(hand, seed, t + i)) {
                changes++;
            }
        }
        return changes;
    }

    // ---- 3 draws

    public int gap(int b) {
        if (b < 0 || b > MOST_BACK) {
            return OUTSIDE;
        }
        if (!rules.isGood) {
            return NO;
        }
        draws.runBoth(seed, b);
        return draws.unlikePlaces();
    }

    public int draw() {
        if (!rules.isGood || !draws.findsOne(seed)) {
            return NO;
        }
        draws.keep();
        return draws.back;
    }

    public int drawn(int p) {
        if (!net.has(p)) {
            return UNKNOWN;
        }
        return draws.isKept ? draws.kept[p] : STATE;
    }

    public int met() {
        return draws.isKept ? draws.keptMeeting : NOTHING_MET;
    }

    public int tally(int p, int s, int n) {
        if (!net.has(p)) {
            return UNKNOWN;
        }
        if (n < 1 || n > MOST_DRAWS) {
            return OUTSIDE;
        }
        if (!rules.isGood) {
            return NO;
        }
        int sum = 0;
        for (int i = 0; i < n; i++) {
            if (!draws.findsOne(s + i)) {
                return NO;
            }
            sum += draws.low[p];
        }
        return sum;
    }

    // ---- 4 small systems

    public int many() {
        int refusal = refusalUnlessSmall();
        return refusal != GOES ? refusal : (int) small.sumOf(Small.STATES, 0, 0);
    }

    public long all() {
        int refusal = refusalUnlessSmall();
        return refusal != GOES ? refusal : small.sumOf(Small.WEIGHTS, 0, 0);
    }

    public long chance(int what) {
        if (isNoPart(what)) {
            return OUTSIDE;
        }
        int refusal = refusalUnlessSmall();
        return refusal != GOES ? refusal : small.share(rules.weightOf(hand), what);
    }

    public long mean(int p, int what) {
        if (!net.has(p)) {
            return UNKNOWN;
        }
        if (isNoPart(what)) {
            return OUTSIDE;
        }
        int refusal = refusalUnlessSmall();
        return refusal != GOES ? refusal : small.share(small.sumOf(Small.NUMBERS, p, p), what);
    }

    public long alike(int p, int q, int what) {
        if (!net.has(p) || !net.has(q)) {
            return UNKNOWN;
        }
        if (isNoPart(what)) {
            return OUTSIDE;
        }
        int refusal = refusalUnlessSmall();
        return refusal != GOES ? refusal : small.share(small.sumOf(Small.LIKES, p, q), what);
    }

    public int told(int what) {
        switch (what) {
            case 0: return net.places;
            case 1: return net.links;
            case 2: return rules.kind;
            case 3: return rules.u;
            case 4: return rules.v;
            case 5: return seed;
            case 6: return draws.isKept ? 1 : 0;
            case 7: return net.likeLinks(hand);
            default: return NOT_TOLD;
        }
    }

    public int about(int p, int what) {
        if (!net.has(p)) {
            return UNKNOWN;
        }
        switch (what) {
            case 0: return net.top[p];
            case 1: return net.side[p];
            case 2: return net.held[p];
            case 3: return net.neighbours[p];
            default: break;
        }
        if (what < 10 || what >= 10 + MOST_NEIGHBOURS) {
            return OUTSIDE;
        }
        return what - 10 < net.neighbours[p] ? net.neighbour[p][what - 10] : NONE;
    }

    // ---- what the calls share

    private void startAnew() {
        rules.settle();
        draws.isKept = false;
        for (int p = 0; p < MOST_PLACES; p++) {
            hand[p] = rules.isGood ? rules.low[p] : 0;
        }
    }

    private static boolean isNoPart(int what) {
        return what < 0 || what > 1;
    }

    private int refusalUnlessSmall() {
        if (!rules.isGood) {
            return NO;
        }
        return small.isSmall() ? GOES : FULL;
    }

    private static void copyRow(int[] from, int[] to) {
        System.arraycopy(from, 0, to, 0, MOST_PLACES);
    }

    /** The PLACES and the LINKS, whatever the KIND makes of them. */
    private static final class Net {
        final int[] top = new int[MOST_PLACES];
        final int[] side = new int[MOST_PLACES];
        final int[] held = new int[MOST_PLACES];
        final int[] neighbours = new int[MOST_PLACES];
        final int[][] neighbour = new int[MOST_PLACES][MOST_NEIGHBOURS];
        final int[] oneEnd = new int[MOST_LINKS];
        final int[] otherEnd = new int[MOST_LINKS];
        int places;
        int links;

        boolean has(int p) {
            return p >= 0 && p < places;
        }

        boolean isCrowded(int p) {
            return neighbours[p] >= MOST_NEIGHBOURS;
        }

        boolean areLinked(int p, int q) {
            for (int i = 0; i < neighbours[p]; i++) {
                if (neighbour[p][i] == q) {
                    return true;
                }
            }
            return false;
        }

        int addPlace(int itsTop, int itsSide) {
            top[places] = itsTop;
            side[places] = itsSide;
            held[places] = NOT_HELD;
            places++;
            return places - 1;
        }

        void addLink(int p, int q) {
            oneEnd[links] = p;
            otherEnd[links] = q;
            links++;
            addNeighbour(p, q);
            addNeighbour(q, p);
        }

        /** Keeps the neighbours in the order of their numbers, in which they are asked for. */
        private void addNeighbour(int p, int q) {
            int[] row = neighbour[p];
            int i = neighbours[p];
            while (i > 0 && row[i - 1] > q) {
                row[i] = row[i - 1];
                i--;
            }
            row[i] = q;
            neighbours[p]++;
        }

        int likeLinks(int[] state) {
            int like = 0;
            for (int i = 0; i < links; i++) {
                if (state[oneEnd[i]] == state[otherEnd[i]]) {
                    like++;
                }
            }
            return like;
        }
    }

    /** What the KIND makes of the PLACES and LINKS: ALLOWED, WEIGHT, GOOD, HIGHEST and LOWEST. */
    private static final class Rules {
        final Net net;
        final int[] high = new int[MOST_PLACES];
        final int[] low = new int[MOST_PLACES];
        int kind = NEEDLES;
        int u = 1;
        int v = 1;
        boolean isGood = false;

        Rules(Net net) {
            this.net = net;
        }

        /** The greatest NUMBER, and the greatest HEIGHT, that counts at a PLACE. */
        int most(int p) {
            return kind == HEIGHTS ? net.top[p] : 1;
        }

        int numberOfHeight(int p, int height) {
            return kind == GUESTS && net.side[p] == 1 ? 1 - height : height;
        }

        boolean isHeld(int p) {
            return kind == HEIGHTS && net.held[p] != NOT_HELD;
        }

        /** What a PLACE with this NUMBER gives to the WEIGHT, 0 if no ALLOWED STATE has it there. */
        int placeWeight(int p, int x) {
            if (x < 0 || x > most(p) || isHeld(p) && x != net.held[p]) {
                return 0;
            }
            if (kind != GUESTS) {
                return 1;
            }
            return x == 1 ? u : v;
        }

        /** What a LINK with these NUMBERS gives to the WEIGHT, 0 if no ALLOWED STATE has them there. */
        int linkWeight(int x, int y) {
            switch (kind) {
                case NEEDLES: return x == y ? u : v;
                case HEIGHTS: return x - y <= 1 && y - x <= 1 ? 1 : 0;
                default: return x == 1 && y == 1 ? 0 : 1;
            }
        }

        boolean isAllowed(int[] state) {
            for (int p = 0; p < net.places; p++) {
                if (placeWeight(p, state[p]) == 0) {
                    return false;
                }
            }
            for (int i = 0; i < net.links; i++) {
                if (linkWeight(state[net.oneEnd[i]], state[net.otherEnd[i]]) == 0) {
                    return false;
                }
            }
            return true;
        }

        /** Of a STATE of a SMALL system: of a larger one a long could not hold it. 0 if it is not ALLOWED. */
        long weightOf(int[] state) {
            long weight = 1;
            for (int p = 0; p < net.places; p++) {
                weight *= placeWeight(p, state[p]);
            }
            for (int i = 0; i < net.links; i++) {
                weight *= linkWeight(state[net.oneEnd[i]], state[net.otherEnd[i]]);
            }
            return weight;
        }

        /**
         * What x at p alone gives to the WEIGHT of an ALLOWED STATE, 0 if it would not be ALLOWED then. The
         * rest of the STATE gives the same to each x, so it can be left out where they are compared.
         */
        long weightAround(int[] state, int p, int x) {
            long weight = placeWeight(p, x);
            int[] row = net.neighbour[p];
            for (int i = 0; i < net.neighbours[p]; i++) {
                weight *= linkWeight(x, state[row[i]]);
            }
            return weight;
        }

        /** To be called whenever the system has changed. */
        void settle() {
            for (int p = 0; p < net.places; p++) {
                high[p] = isHeld(p) ? net.held[p] : numberOfHeight(p, most(p));
                low[p] = isHeld(p) ? net.held[p] : numberOfHeight(p, 0);
            }
            if (kind == HEIGHTS) {
                drawTogether();
            }
            isGood = net.places > 0 && isSound();
        }

        /** A bound reaches as far as a path without a PLACE twice, so as many rounds as PLACES are enough. */
        private void drawTogether() {
            for (int round = 0; round < net.places; round++) {
                for (int i = 0; i < net.links; i++) {
                    int p = net.oneEnd[i];
                    int q = net.otherEnd[i];
                    high[p] = Math.min(high[p], high[q] + 1);
                    high[q] = Math.min(high[q], high[p] + 1);
                    low[p] = Math.max(low[p], low[q] - 1);
                    low[q] = Math.max(low[q], low[p] - 1);
                }
            }
        }

        private boolean isSound() {
            switch (kind) {
                case NEEDLES: return u >= v;
                case HEIGHTS: return lowIsBelowHigh();
                default: return linksCrossSides();
            }
        }

        /** Where the bounds leave a NUMBER to each PLACE, the bounds themselves are ALLOWED STATES. */
        private boolean lowIsBelowHigh() {
            for (int p = 0; p < net.places; p++) {
                if (low[p] > high[p]) {
                    return false;
                }
            }
            return true;
        }

        private boolean linksCrossSides() {
            for (int i = 0; i < net.links; i++) {
                if (net.side[net.oneEnd[i]] == net.side[net.otherEnd[i]]) {
                    return false;
                }
            }
            return true;
        }
    }

    /** The lots, and what a TICK does to a STATE. */
    private static final class Ticks {
        final Net net;
        final Rules rules;
        final long[] weight = new long[MOST_TOP + 1];

        Ticks(Net net, Rules rules) {
            this.net = net;
            this.rules = rules;
        }

        static int mixed(int seed, int t) {
            int m = seed * 1103515245 + t * 12345 + 1013904223;
            m = (m ^ (m >>> 15)) * 739982445;
            m = (m ^ (m >>> 12)) * 695872825;
            return m ^ (m >>> 15);
        }

        static int lotOf(int mixed) {
            return mixed & (LOTS - 1);
        }

        int placeOf(int mixed) {
            return net.places > 0 ? (mixed >>> 16) % net.places : 0;
        }

        /** Does TICK t to a STATE: whether that changed it. */
        boolean changes(int[] state, int seed, int t) {
            int mixed = mixed(seed, t);
            int p = placeOf(mixed);
            int before = state[p];
            state[p] = chosen(state, p, lotOf(mixed));
            return state[p] != before;
        }

        private int chosen(int[] state, int p, int lot) {
            int most = rules.most(p);
            long ofAll = 0;
            for (int height = 0; height <= most; height++) {
                weight[height] = rules.weightAround(state, p, rules.numberOfHeight(p, height));
                ofAll += weight[height];
            }
            long upToHere = 0;
            for (int height = 0; height <= most; height++) {
                upToHere += weight[height];
                if (lot * ofAll < LOTS * upToHere) {
                    return rules.numberOfHeight(p, height);
                }
            }
            return state[p];
        }
    }

    /** HIGHEST and LOWEST run on the same lots, and what was DRAWN by them. */
    private static final class Draws {
        final Net net;
        final Rules rules;
        final Ticks ticks;
        final int[] high = new int[MOST_PLACES];
        final int[] low = new int[MOST_PLACES];
        int back;
        int meeting;
        final int[] kept = new int[MOST_PLACES];
        int keptMeeting;
        boolean isKept = false;

        Draws(Net net, Rules rules, Ticks ticks) {
            this.net = net;
            this.rules = rules;
            this.ticks = ticks;
        }

        void runBoth(int seed, int b) {
            copyRow(rules.high, high);
            copyRow(rules.low, low);
            boolean areOne = areOneState();
            meeting = 0;
            for (int t = -b; t < 0; t++) {
                ticks.changes(high, seed, t);
                ticks.changes(low, seed, t);
                if (!areOne && areOneState()) {
                    areOne = true;
                    meeting = t;
                }
            }
        }

        boolean areOneState() {
            for (int p = 0; p < net.places; p++) {
                if (high[p] != low[p]) {
                    return false;
                }
            }
            return true;
        }

        int unlikePlaces() {
            int unlike = 0;
            for (int p = 0; p < net.places; p++) {
                if (high[p] != low[p]) {
                    unlike++;
                }
            }
            return unlike;
        }

        /** Leaves what it found in high and in low, with how far back it went; false if they do not meet. */
        boolean findsOne(int seed) {
            for (int b = 1; b <= MOST_BACK; b *= 2) {
                runBoth(seed, b);
                if (areOneState()) {
                    back = b;
                    return true;
                }
            }
            return false;
        }

        void keep() {
            copyRow(low, kept);
            keptMeeting = meeting;
            isKept = true;
        }
    }

    /** Goes through all STATES of a SMALL system. */
    private static final class Small {
        static final int STATES = 0, WEIGHTS = 1, NUMBERS = 2, LIKES = 3;

        final Net net;
        final Rules rules;
        final int[] row = new int[MOST_PLACES];

        Small(Net net, Rules rules) {
            this.net = net;
            this.rules = rules;
        }

        boolean isSmall() {
            return net.links <= MOST_SMALL_LINKS && states() <= MOST_STATES;
        }

        /** How many STATES there are, ALLOWED or not: with 24 PLACES of 6 NUMBERS a long holds that still. */
        private long states() {
            long states = 1;
            for (int p = 0; p < net.places; p++) {
                states *= rules.most(p) + 1;
            }
            return states;
        }

        /** The sum over all ALLOWED STATES of what is asked for: of 1, or of the WEIGHT times what p and q say. */
        long sumOf(int asked, int p, int q) {
            for (int i = 0; i < MOST_PLACES; i++) {
                row[i] = 0;
            }
            long states = states();
            long sum = 0;
            for (int i = 0; i < states && i < MOST_STATES; i++) {
                sum += termOf(asked, p, q);
                stepOn();
            }
            return sum;
        }

        private long termOf(int asked, int p, int q) {
            long weight = rules.weightOf(row);
            switch (asked) {
                case STATES: return weight > 0 ? 1 : 0;
                case WEIGHTS: return weight;
                case NUMBERS: return weight * row[p];
                default: return row[p] == row[q] ? weight : 0;
            }
        }

        /** Counts on by one, PLACE 0 being the digit that goes round first. */
        private void stepOn() {
            for (int p = 0; p < net.places; p++) {
                if (row[p] < rules.most(p)) {
                    row[p]++;
                    return;
                }
                row[p] = 0;
            }
        }

        /** A part of the WEIGHT of all, in lowest terms: its upper (0) or lower number (1). */
        long share(long part, int what) {
            long whole = sumOf(WEIGHTS, 0, 0);
            long divisor = commonDivisor(part, whole);
            if (divisor < 1) {
                return what;
            }
            return (what == 0 ? part : whole) / divisor;
        }

        /** By Euclid: two longs take fewer than a hundred steps. */
        private static long commonDivisor(long a, long b) {
            for (int i = 0; i < 100 && b != 0; i++) {
                long rest = a % b;
                a = b;
                b = rest;
            }
            return a;
        }
    }
}

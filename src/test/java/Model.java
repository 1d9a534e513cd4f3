import java.math.BigInteger;
import java.util.ArrayList;
import java.util.Arrays;
import java.util.List;
import java.util.TreeSet;

/**
 * The document read once more, as slowly and as literally as can be: WEIGHTS are those of whole STATES and
 * of any size, STATES are gone through by recursion, and nothing is kept that can be worked out again.
 */
final class Model {
    private static final int NONE = -6, UNKNOWN = -1, OUTSIDE = -2, STATE = -3, FULL = -4, NO = -5;

    private final List<int[]> places = new ArrayList<>();
    private final List<int[]> links = new ArrayList<>();
    private int kind = 0;
    private int u = 1;
    private int v = 1;
    private int seed = 0;
    private int[] hand = {};
    private int[] drawn = null;
    private int met = 1;
    // These two hang on the system alone and are asked for at each TICK.
    private int[] highest = null;
    private int[] lowest = null;

    int place(int top, int side) {
        if (top < 1 || top > 5 || side < 0 || side > 1) return OUTSIDE;
        if (places.size() == 24) return FULL;
        places.add(new int[] {top, side, -1});
        change();
        return places.size() - 1;
    }

    int link(int p, int q) {
        if (unknown(p) || unknown(q)) return UNKNOWN;
        if (links.size() == 60 || neighbours(p).size() == 6 || neighbours(q).size() == 6) return FULL;
        if (p == q || neighbours(p).contains(q)) return NO;
        links.add(new int[] {p, q});
        change();
        return links.size();
    }

    int kind(int kind, int u, int v) {
        if (kind < 0 || kind > 2 || u < 1 || u > 9 || v < 1 || v > 9) return OUTSIDE;
        this.kind = kind;
        this.u = u;
        this.v = v;
        change();
        return 1;
    }

    int hold(int p, int x) {
        if (unknown(p)) return UNKNOWN;
        if (x < -1 || x > places.get(p)[0]) return OUTSIDE;
        int before = places.get(p)[2];
        places.get(p)[2] = x;
        change();
        return before;
    }

    int good() {
        return isGood() ? 1 : 0;
    }

    int highest(int p) {
        return unknown(p) ? UNKNOWN : !isGood() ? NO : highest[p];
    }

    int lowest(int p) {
        return unknown(p) ? UNKNOWN : !isGood() ? NO : lowest[p];
    }

    int at(int p) {
        return unknown(p) ? UNKNOWN : hand[p];
    }

    int put(int p, int x) {
        if (unknown(p)) return UNKNOWN;
        if (x < 0 || x > places.get(p)[0]) return OUTSIDE;
        int[] next = with(hand, p, x);
        if (!allowed(next)) return NO;
        int before = hand[p];
        hand = next;
        return before;
    }

    int take(int which) {
        if (which < 0 || which > 2) return OUTSIDE;
        if (which == 2 && drawn == null) return STATE;
        if (!isGood()) return NO;
        hand = (which == 0 ? highest : which == 1 ? lowest : drawn).clone();
        return 1;
    }

    int seed(int s) {
        int before = seed;
        seed = s;
        return before;
    }

    int tick(int t, int what) {
        if (what != 0 && what != 1) return OUTSIDE;
        if (places.isEmpty()) return STATE;
        return what == 0 ? placeOf(seed, t) : lot(seed, t);
    }

    int run(int t, int e) {
        if (e < t || (long) e - (long) t > 20000) return OUTSIDE;
        if (!isGood()) return NO;
        int changed = 0;
        for (long tick = t; tick < e; tick++) {
            int[] next = ticked(hand, seed, (int) tick);
            if (!Arrays.equals(next, hand)) changed++;
            hand = next;
        }
        return changed;
    }

    int gap(int b) {
        if (b < 0 || b > 4096) return OUTSIDE;
        if (!isGood()) return NO;
        int[] high = highest;
        int[] low = lowest;
        for (int t = -b; t < 0; t++) {
            high = ticked(high, seed, t);
            low = ticked(low, seed, t);
        }
        int unlike = 0;
        for (int p = 0; p < places.size(); p++) {
            if (high[p] != low[p]) unlike++;
        }
        return unlike;
    }

    int draw() {
        if (!isGood()) return NO;
        int b = drawInto(seed, null);
        if (b == NO) return NO;
        int[] found = new int[places.size()];
        drawInto(seed, found);
        drawn = found;
        met = meeting(b);
        return b;
    }

    int drawn(int p) {
        return unknown(p) ? UNKNOWN : drawn == null ? STATE : drawn[p];
    }

    int met() {
        return drawn == null ? 1 : met;
    }

    int tally(int p, int s, int n) {
        if (unknown(p)) return UNKNOWN;
        if (n < 1 || n > 8) return OUTSIDE;
        if (!isGood()) return NO;
        int sum = 0;
        for (int i = 0; i < n; i++) {
            int[] found = new int[places.size()];
            if (drawInto(s + i, found) == NO) return NO;
            sum += found[p];
        }
        return sum;
    }

    int many() {
        return refusal() != 0 ? refusal() : allowedStates().size();
    }

    long all() {
        return refusal() != 0 ? refusal() : total().longValueExact();
    }

    long chance(int what) {
        if (what != 0 && what != 1) return OUTSIDE;
        return refusal() != 0 ? refusal() : share(weight(hand), what);
    }

    long mean(int p, int what) {
        if (unknown(p)) return UNKNOWN;
        if (what != 0 && what != 1) return OUTSIDE;
        if (refusal() != 0) return refusal();
        BigInteger sum = BigInteger.ZERO;
        for (int[] state : allowedStates()) sum = sum.add(weight(state).multiply(BigInteger.valueOf(state[p])));
        return share(sum, what);
    }

    long alike(int p, int q, int what) {
        if (unknown(p) || unknown(q)) return UNKNOWN;
        if (what != 0 && what != 1) return OUTSIDE;
        if (refusal() != 0) return refusal();
        BigInteger sum = BigInteger.ZERO;
        for (int[] state : allowedStates()) {
            if (state[p] == state[q]) sum = sum.add(weight(state));
        }
        return share(sum, what);
    }

    int told(int what) {
        int like = 0;
        for (int[] link : links) {
            if (hand[link[0]] == hand[link[1]]) like++;
        }
        int[] answers = {places.size(), links.size(), kind, u, v, seed, drawn == null ? 0 : 1, like};
        return what < 0 || what > 7 ? Integer.MIN_VALUE : answers[what];
    }

    int about(int p, int what) {
        if (unknown(p)) return UNKNOWN;
        List<Integer> near = new ArrayList<>(neighbours(p));
        if (what >= 0 && what <= 2) return places.get(p)[what];
        if (what == 3) return near.size();
        if (what < 10 || what > 15) return OUTSIDE;
        return what - 10 < near.size() ? near.get(what - 10) : NONE;
    }

    // ---- the terms

    private void change() {
        drawn = null;
        highest = bound(true);
        lowest = bound(false);
        hand = isGood() ? lowest.clone() : new int[places.size()];
    }

    private boolean unknown(int p) {
        return p < 0 || p >= places.size();
    }

    private TreeSet<Integer> neighbours(int p) {
        TreeSet<Integer> near = new TreeSet<>();
        for (int[] link : links) {
            if (link[0] == p) near.add(link[1]);
            if (link[1] == p) near.add(link[0]);
        }
        return near;
    }

    private boolean isGood() {
        if (places.isEmpty()) return false;
        if (kind == 0) return u >= v;
        if (kind == 1) return allowed(highest);
        for (int[] link : links) {
            if (places.get(link[0])[1] == places.get(link[1])[1]) return false;
        }
        return true;
    }

    /** In HEIGHTS each NUMBER is lowered (or raised) by one as long as a neighbour forbids it. */
    private int[] bound(boolean isHighest) {
        int[] state = new int[places.size()];
        for (int p = 0; p < state.length; p++) {
            int[] place = places.get(p);
            int height = !isHighest ? 0 : kind == 1 ? place[0] : 1;
            state[p] = kind == 2 && place[1] == 1 ? 1 - height : height;
            if (kind == 1 && place[2] >= 0) state[p] = place[2];
        }
        boolean isMoving = kind == 1;
        while (isMoving) {
            isMoving = false;
            for (int p = 0; p < state.length; p++) {
                for (int q : neighbours(p)) {
                    if (isHighest ? state[p] > state[q] + 1 && state[p] > 0 : state[p] < state[q] - 1) {
                        state[p] += isHighest ? -1 : 1;
                        isMoving = true;
                    }
                }
            }
        }
        return state;
    }

    private boolean allowed(int[] state) {
        for (int p = 0; p < state.length; p++) {
            int[] place = places.get(p);
            if (state[p] < 0 || state[p] > (kind == 1 ? place[0] : 1)) return false;
            if (kind == 1 && place[2] >= 0 && place[2] != state[p]) return false;
        }
        for (int[] link : links) {
            int a = state[link[0]];
            int b = state[link[1]];
            if (kind == 1 && Math.abs(a - b) > 1) return false;
            if (kind == 2 && a == 1 && b == 1) return false;
        }
        return true;
    }

    private BigInteger weight(int[] state) {
        int us = 0;
        int vs = 0;
        if (kind == 0) {
            for (int[] link : links) {
                if (state[link[0]] == state[link[1]]) us++;
                else vs++;
            }
        }
        if (kind == 2) {
            for (int number : state) {
                if (number == 1) us++;
                else vs++;
            }
        }
        return BigInteger.valueOf(u).pow(us).multiply(BigInteger.valueOf(v).pow(vs));
    }

    private int mixed(int seed, int t) {
        int m = seed * 1103515245 + t * 12345 + 1013904223;
        int[] shifts = {15, 12, 15};
        int[] numbers = {739982445, 695872825, 1};
        for (int i = 0; i < 3; i++) m = (m ^ (m >>> shifts[i])) * numbers[i];
        return m;
    }

    private int lot(int seed, int t) {
        return mixed(seed, t) & 65535;
    }

    private int placeOf(int seed, int t) {
        return (mixed(seed, t) >>> 16) % places.size();
    }

    private static int[] with(int[] state, int p, int x) {
        int[] next = state.clone();
        next[p] = x;
        return next;
    }

    private int[] ticked(int[] state, int seed, int t) {
        int p = placeOf(seed, t);
        int[] place = places.get(p);
        List<int[]> byHeight = new ArrayList<>();
        BigInteger all = BigInteger.ZERO;
        for (int height = 0; height <= 5; height++) {
            int[] next = with(state, p, kind == 2 && place[1] == 1 ? 1 - height : height);
            if (allowed(next)) {
                byHeight.add(next);
                all = all.add(weight(next));
            }
        }
        BigInteger upTo = BigInteger.ZERO;
        BigInteger lots = BigInteger.valueOf(lot(seed, t)).multiply(all);
        for (int[] next : byHeight) {
            upTo = upTo.add(weight(next));
            if (lots.compareTo(upTo.shiftLeft(16)) < 0) return next;
        }
        throw new IllegalStateException("no NUMBER for this LOT");
    }

    private int drawInto(int seed, int[] found) {
        for (int b = 1; b <= 4096; b += b) {
            int[] high = highest;
            int[] low = lowest;
            for (int t = -b; t < 0; t++) {
                // What is one stays one on the same lots, so it need not be worked out twice.
                boolean areOne = Arrays.equals(high, low);
                high = ticked(high, seed, t);
                low = areOne ? high : ticked(low, seed, t);
            }
            if (Arrays.equals(high, low)) {
                if (found != null) System.arraycopy(high, 0, found, 0, found.length);
                return b;
            }
        }
        return NO;
    }

    private int meeting(int b) {
        int[] high = highest;
        int[] low = lowest;
        if (Arrays.equals(high, low)) return 0;
        for (int t = -b; t < 0; t++) {
            high = ticked(high, seed, t);
            low = ticked(low, seed, t);
            if (Arrays.equals(high, low)) return t;
        }
        throw new IllegalStateException("they do not meet");
    }

    // ---- small systems

    private int refusal() {
        if (!isGood()) return NO;
        double states = 1;
        for (int[] place : places) states *= kind == 1 ? place[0] + 1 : 2;
        return states > 5000 || links.size() > 12 ? FULL : 0;
    }

    List<int[]> allowedStates() {
        List<int[]> states = new ArrayList<>();
        gather(new int[places.size()], 0, states);
        return states;
    }

    private void gather(int[] state, int p, List<int[]> states) {
        if (p == state.length) {
            if (allowed(state)) states.add(state.clone());
            return;
        }
        for (int x = 0; x <= (kind == 1 ? places.get(p)[0] : 1); x++) {
            state[p] = x;
            gather(state, p + 1, states);
        }
        state[p] = 0;
    }

    private BigInteger total() {
        BigInteger sum = BigInteger.ZERO;
        for (int[] state : allowedStates()) sum = sum.add(weight(state));
        return sum;
    }

    private long share(BigInteger part, int what) {
        BigInteger whole = total();
        BigInteger divisor = part.gcd(whole);
        return (what == 0 ? part : whole).divide(divisor).longValueExact();
    }
}

/** Promises 9 to 14: the state at hand and the ticks. */
public final class HandTest {
    private static final int UNKNOWN = -1, OUTSIDE = -2, STATE = -3, NO = -5;
    private static final int LEAST = Integer.MIN_VALUE, MOST = Integer.MAX_VALUE;

    public static void main(String[] args) {
        at();
        putNeedles();
        putHeights();
        putGuests();
        putWhereNotGood();
        take();
        seed();
        tick();
        oneTickOfNeedles();
        oneTickOfHeights();
        oneTickOfGuests();
        run();
        runIsRefused();
        Due.end("HandTest");
    }

    private static void at() {
        LongAgoDraws x = Benches.row(2, 3);
        Due.is("9 lowest at first", x.at(0), 0);
        x.put(1, 1);
        Due.is("9 what was put", x.at(1), 1);
        int[] odd = {-1, 2, LEAST, MOST};
        for (int p : odd) {
            Due.is("9 unknown " + p, x.at(p), UNKNOWN);
        }
    }

    private static void putNeedles() {
        LongAgoDraws x = Benches.path(3, 3);
        Due.is("10 put", x.put(1, 1), 0);
        Due.is("10 put again", x.put(1, 0), 1);
        Due.is("10 same", x.put(1, 0), 0);
        Due.is("10 only 0 and 1 count", x.put(1, 2), NO);
        Due.is("10 to its top", x.put(1, 3), NO);
        Due.is("10 above its top", x.put(1, 4), OUTSIDE);
        Due.is("10 below 0", x.put(1, -1), OUTSIDE);
        Due.is("10 least", x.put(1, LEAST), OUTSIDE);
        Due.is("10 most", x.put(1, MOST), OUTSIDE);
        int[] odd = {-1, 3, LEAST, MOST};
        for (int p : odd) {
            Due.is("10 unknown " + p, x.put(p, 9), UNKNOWN);
        }
        Due.is("10 nothing changed", Benches.sumAt(x), 0);
        x.draw();
        x.put(0, 1);
        Due.is("10 drawn stays", x.told(6), 1);
        x.hold(1, 0);
        Due.is("10 held counts not for needles", x.put(1, 1), 0);
    }

    private static void putHeights() {
        LongAgoDraws x = Benches.path(3, 3);
        x.kind(Benches.HEIGHTS, 1, 1);
        x.hold(2, 2);
        Due.is("10 heights start", x.at(0) * 100 + x.at(1) * 10 + x.at(2), 12);
        Due.is("10 held", x.put(2, 1), NO);
        Due.is("10 held, same", x.put(2, 2), 2);
        Due.is("10 too far", x.put(0, 3), NO);
        Due.is("10 near", x.put(0, 2), 0);
        Due.is("10 too low now", x.put(1, 0), NO);
        Due.is("10 middle", x.put(1, 3), 1);
        Due.is("10 end", x.put(0, 3), 2);
        Due.is("10 too low by the other side", x.put(1, 1), NO);
        Due.is("10 heights end", x.at(0) * 100 + x.at(1) * 10 + x.at(2), 332);
    }

    private static void putGuests() {
        LongAgoDraws x = Benches.path(3, 2);
        x.kind(Benches.GUESTS, 1, 1);
        Due.is("10 guests start", x.at(0) * 100 + x.at(1) * 10 + x.at(2), 10);
        Due.is("10 beside a guest", x.put(0, 1), NO);
        Due.is("10 guest goes", x.put(1, 0), 1);
        Due.is("10 guest comes", x.put(2, 1), 0);
        Due.is("10 another", x.put(0, 1), 0);
        Due.is("10 between guests", x.put(1, 1), NO);
        Due.is("10 guests, 2", x.put(0, 2), NO);
        Due.is("10 guests end", x.at(0) * 100 + x.at(1) * 10 + x.at(2), 101);
    }

    private static void putWhereNotGood() {
        LongAgoDraws x = Benches.path(2, 5);
        x.kind(Benches.NEEDLES, 1, 2);
        Due.is("10 needles, not good, allowed", x.put(0, 1), 0);
        Due.is("10 needles, not good, it is there", x.at(0), 1);
        x.kind(Benches.HEIGHTS, 1, 1);
        x.hold(0, 0);
        x.hold(1, 4);
        Due.is("10 heights, not good: nothing is allowed", x.put(0, 0), NO);
        Due.is("10 heights, not good: nor there", x.put(1, 1), NO);
        x = Benches.row(3, 1);
        x.link(0, 2);
        x.kind(Benches.GUESTS, 1, 1);
        Due.is("10 guests, not good, allowed", x.put(0, 1), 0);
        Due.is("10 guests, not good, not allowed", x.put(2, 1), NO);
    }

    private static void take() {
        LongAgoDraws x = Benches.path(3, 1);
        Due.is("11 highest", x.take(0), 1);
        Due.is("11 is highest", Benches.sumAt(x), 3);
        Due.is("11 lowest", x.take(1), 1);
        Due.is("11 is lowest", Benches.sumAt(x), 0);
        Due.is("11 nothing drawn", x.take(2), STATE);
        x.kind(Benches.NEEDLES, 3, 1);
        x.seed(7);
        x.draw();
        Due.is("11 drawn", x.take(2), 1);
        Due.is("11 is drawn", x.at(0) * 100 + x.at(1) * 10 + x.at(2), 100);
        x.put(0, 0);
        Due.is("11 the drawn one is another row", x.drawn(0), 1);
        x.take(0);
        x.put(0, 0);
        Due.is("11 highest is another row", x.highest(0), 1);
        x.take(1);
        x.put(0, 1);
        Due.is("11 lowest is another row", x.lowest(0), 0);
        int[] odd = {-1, 3, LEAST, MOST};
        for (int which : odd) {
            Due.is("11 outside " + which, x.take(which), OUTSIDE);
        }
        x.kind(Benches.NEEDLES, 1, 3);
        Due.is("11 not good", x.take(0), NO);
        Due.is("11 not good, lowest", x.take(1), NO);
        Due.is("11 state before no", x.take(2), STATE);
        Due.is("11 outside before no", x.take(3), OUTSIDE);
        Due.is("11 no place", new LongAgoDraws().take(0), NO);
    }

    private static void seed() {
        LongAgoDraws x = Benches.path(3, 1);
        x.draw();
        x.take(0);
        Due.is("12 before", x.seed(LEAST), 0);
        Due.is("12 least", x.seed(MOST), LEAST);
        Due.is("12 most", x.seed(-1), MOST);
        Due.is("12 told", x.told(5), -1);
        Due.is("12 drawn stays", x.told(6), 1);
        Due.is("12 at hand stays", Benches.sumAt(x), 3);
        x.place(1, 0);
        Due.is("12 the system's changes leave it", x.seed(0), -1);
    }

    private static int mixed(int seed, int t) {
        int m = seed * 1103515245 + t * 12345 + 1013904223;
        m = (m ^ (m >>> 15)) * 739982445;
        m = (m ^ (m >>> 12)) * 695872825;
        return m ^ (m >>> 15);
    }

    private static void tick() {
        LongAgoDraws x = new LongAgoDraws();
        Due.is("13 no places", x.tick(0, 0), STATE);
        Due.is("13 no places, lot", x.tick(0, 1), STATE);
        Due.is("13 outside before state", x.tick(0, 2), OUTSIDE);
        x.place(1, 0);
        Due.is("13 lot of 0", x.tick(0, 1), 10976);
        Due.is("13 lot of the least", x.tick(LEAST, 1), 41995);
        Due.is("13 only place", x.tick(5, 0), 0);
        for (int places = 2; places <= 24; places++) {
            x.place(1, 0);
            int seed = places * 123456789;
            x.seed(seed);
            int[] ticks = {0, 1, -1, 4096, -4096, LEAST, MOST, places * 7654321};
            for (int t : ticks) {
                Due.is("13 place of " + t, x.tick(t, 0), (mixed(seed, t) >>> 16) % places);
                Due.is("13 lot of " + t, x.tick(t, 1), mixed(seed, t) & 65535);
            }
        }
        int[] odd = {-1, 2, LEAST, MOST};
        for (int what : odd) {
            Due.is("13 outside " + what, x.tick(0, what), OUTSIDE);
        }
        x.kind(Benches.NEEDLES, 1, 2);
        Due.isTrue("13 asks for no good system", x.tick(0, 0) >= 0);
    }

    /** The first TICK whose PLACE and LOT are as wanted; the LOT lies in from to less than end. */
    private static int find(LongAgoDraws x, int p, int from, int end) {
        int seed = x.told(5);
        int places = x.told(0);
        for (int t = 0; t < 4000000; t++) {
            int m = mixed(seed, t);
            if ((m >>> 16) % places == p && (m & 65535) >= from && (m & 65535) < end) {
                return t;
            }
        }
        return -1;
    }

    private static void lotGives(LongAgoDraws x, int p, int lot, int due) {
        int t = find(x, p, lot, lot + 1);
        Due.is("14 a tick is found", x.tick(t, 0) * 65536L + x.tick(t, 1), p * 65536L + lot);
        int before = x.at(p);
        Due.is("14 changes by lot " + lot, x.run(t, t + 1), before == due ? 0 : 1);
        Due.is("14 number by lot " + lot, x.at(p), due);
    }

    /** The LOTS on both sides of the bound between 0 and 1. */
    private static void oneTickOfNeedles() {
        LongAgoDraws x = Benches.path(3, 1);
        x.kind(Benches.NEEDLES, 3, 1);
        // All at 0: 0 weighs 9, 1 weighs 1; LOT times 10 is below 65536 times 9 up to LOT 58982.
        lotGives(x, 1, 58982, 0);
        lotGives(x, 1, 58983, 1);
        lotGives(x, 1, 0, 0);
        lotGives(x, 1, 65535, 1);
        x.put(2, 1);
        lotGives(x, 1, 32767, 0);
        lotGives(x, 1, 32768, 1);
        x.put(0, 1);
        // Both at 1: 0 weighs 1 of 10.
        lotGives(x, 1, 6553, 0);
        lotGives(x, 1, 6554, 1);
        // An end has one neighbour: 1 of 4.
        x.put(1, 1);
        lotGives(x, 0, 16383, 0);
        lotGives(x, 0, 16384, 1);
    }

    private static void oneTickOfHeights() {
        LongAgoDraws x = Benches.path(3, 5);
        x.kind(Benches.HEIGHTS, 9, 2);
        x.take(0);
        x.put(0, 4);
        // Between 4 and 5: 4 and 5.
        lotGives(x, 1, 32767, 4);
        lotGives(x, 1, 32768, 5);
        x.put(0, 5);
        lotGives(x, 1, 0, 4);
        x.put(0, 4);
        x.put(2, 4);
        // Between 4 and 4: 3, 4 and 5.
        lotGives(x, 1, 21845, 3);
        lotGives(x, 1, 21846, 4);
        lotGives(x, 1, 43690, 4);
        lotGives(x, 1, 43691, 5);
        x = new LongAgoDraws();
        x.place(5, 0);
        x.place(1, 0);
        x.kind(Benches.HEIGHTS, 1, 1);
        lotGives(x, 0, 65535, 5);
        lotGives(x, 0, 10922, 0);
        lotGives(x, 0, 10923, 1);
        lotGives(x, 1, 65535, 1);
        x.hold(0, 2);
        lotGives(x, 0, 0, 2);
        lotGives(x, 0, 65535, 2);
        lotGives(x, 1, 40000, 1);
    }

    private static void oneTickOfGuests() {
        LongAgoDraws x = Benches.path(3, 1);
        x.kind(Benches.GUESTS, 1, 3);
        x.put(1, 0);
        // SIDE 0: 0 is the lower HEIGHT and weighs 3 of 4.
        lotGives(x, 0, 49151, 0);
        lotGives(x, 0, 49152, 1);
        lotGives(x, 1, 0, 0);
        lotGives(x, 1, 65535, 0);
        x.put(0, 0);
        // SIDE 1: 1 is the lower HEIGHT and weighs 1 of 4.
        lotGives(x, 1, 16383, 1);
        lotGives(x, 0, 65535, 0);
        lotGives(x, 1, 16384, 0);
        lotGives(x, 2, 65535, 1);
        x.hold(2, 1);
        lotGives(x, 2, 0, 0);
    }

    private static void run() {
        LongAgoDraws x = Benches.path(3, 1);
        x.kind(Benches.NEEDLES, 3, 1);
        x.seed(7);
        x.draw();
        x.take(2);
        Due.is("14 run", x.run(0, 50), 12);
        Due.is("14 state", x.at(0) * 100 + x.at(1) * 10 + x.at(2), 111);
        Due.is("14 drawn stays", x.told(6), 1);
        Due.is("14 no ticks", x.run(5, 5), 0);
        LongAgoDraws y = Benches.path(3, 1);
        y.kind(Benches.NEEDLES, 3, 1);
        y.seed(7);
        y.take(0);
        y.put(1, 0);
        y.put(2, 0);
        int changes = 0;
        for (int t = 0; t < 50; t++) {
            changes += y.run(t, t + 1);
        }
        Due.is("14 run by single ticks", changes, 12);
        Due.is("14 the same end", y.at(0) * 100 + y.at(1) * 10 + y.at(2), 111);
    }

    private static void runIsRefused() {
        LongAgoDraws x = Benches.path(3, 1);
        Due.is("14 below", x.run(1, 0), OUTSIDE);
        Due.is("14 far below", x.run(MOST, LEAST), OUTSIDE);
        Due.is("14 far above", x.run(LEAST, MOST), OUTSIDE);
        Due.is("14 20001", x.run(-1, 20000), OUTSIDE);
        Due.is("14 20001 at the end", x.run(MOST - 20001, MOST), OUTSIDE);
        Due.is("14 nothing changed", Benches.sumAt(x), 0);
        Due.isTrue("14 20000", x.run(0, 20000) > 0);
        Due.isTrue("14 20000 at the end", x.run(MOST - 20000, MOST) > 0);
        Due.isTrue("14 20000 at the start", x.run(LEAST, LEAST + 20000) > 0);
        x.kind(Benches.NEEDLES, 1, 2);
        Due.is("14 not good", x.run(0, 1), NO);
        Due.is("14 not good, no ticks", x.run(0, 0), NO);
        Due.is("14 outside before no", x.run(1, 0), OUTSIDE);
        Due.is("14 no place", new LongAgoDraws().run(0, 1), NO);
    }
}

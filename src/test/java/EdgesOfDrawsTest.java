/** The edges that promises 15 to 19 name: draws. */
public final class EdgesOfDrawsTest {
    private static final int OUTSIDE = -2, STATE = -3, NO = -5;
    private static final int LEAST = Integer.MIN_VALUE, MOST = Integer.MAX_VALUE;
    private static final int HEIGHTS = 1, GUESTS = 2;

    public static void main(String[] args) throws IllegalAccessException {
        Edges.run(EdgesOfDrawsTest.class, "promise", 15, 19);
    }

    /** NEEDLES that meet late or never: with the SEED 1 at 4096, with 18 not by then. */
    private static LongAgoDraws stubborn(int seed) {
        LongAgoDraws x = Benches.cluster(7, 1);
        x.seed(seed);
        return x;
    }

    /** As stubborn with the SEED 18, but something is DRAWN: by the SEED 1. */
    private static LongAgoDraws stubbornAndDrawn() {
        LongAgoDraws x = stubborn(1);
        x.draw();
        x.put(2, 1);
        x.seed(18);
        return x;
    }

    // ---- promise 15: gap

    private static void promise15By0TheyAreAsAtFirst() {
        LongAgoDraws x = Benches.busy();
        Due.is("needles", x.gap(0), 3);
        x.kind(GUESTS, 1, 1);
        Due.is("guests", x.gap(0), 3);
        x.kind(HEIGHTS, 1, 1);
        Due.is("heights, one is HELD", x.gap(0), 2);
    }

    private static void promise15By0WhereHighestIsLowest() {
        LongAgoDraws x = Benches.ofTops(5);
        x.hold(0, 2);
        Due.is("0", x.gap(0), 0);
        Due.is("4096", x.gap(4096), 0);
    }

    private static void promise15By1OneTickIsRun() {
        LongAgoDraws x = Benches.row(3, 1);
        // Without LINKS a NUMBER hangs on the LOT alone, so one PLACE is alike then.
        Due.is("1", x.gap(1), 2);
    }

    private static void promise15By4096IsTaken() {
        Due.is("they are one", Benches.busy().gap(4096), 0);
        Due.is("just so", stubborn(1).gap(4096), 0);
        Due.isTrue("unlike still", stubborn(18).gap(4096) > 0);
    }

    private static void promise15Below0IsOutside() {
        Edges.refused(Benches::busy, OUTSIDE, LongAgoDraws::gap, -1, -2, LEAST);
    }

    private static void promise15Above4096IsOutside() {
        Edges.refused(Benches::busy, OUTSIDE, LongAgoDraws::gap, 4097, 4098, 8192, MOST);
    }

    private static void promise15AnyBIsTakenNotPowersAlone() {
        LongAgoDraws x = Benches.row(2, 1);
        int[] backs = {3, 5, 4095};
        for (int b : backs) {
            boolean both = false;
            for (int t = -b + 1; t < 0; t++) {
                both |= Lots.place(0, t, 2) != Lots.place(0, -b, 2);
            }
            Due.is("by " + b, x.gap(b), both ? 0 : 1);
        }
    }

    private static void promise15NoWhereItIsNotGood() {
        Edges.refused(Benches::notGood, NO, LongAgoDraws::gap, 0, 1, 4096);
        Edges.refused(Benches::heldTooFar, NO, LongAgoDraws::gap, 0, 1);
        Edges.refused(Benches::ofOneSide, NO, LongAgoDraws::gap, 0, 1);
    }

    private static void promise15NothingIsDrawnOrAtHandByIt() {
        LongAgoDraws x = Benches.busy();
        x.gap(16);
        x.gap(0);
        Due.is("DRAWN", Edges.drawn(x), 100);
        Due.is("met", x.met(), -11);
        Due.is("at hand", Edges.atHand(x), 11);
        x = Benches.fresh();
        x.gap(4096);
        Due.is("nothing is DRAWN", x.told(6), 0);
    }

    private static void promise15All24Places() {
        Due.is("needles", Benches.full(1).gap(0), 24);
        Due.is("without LINKS, by 4096", Benches.row(24, 1).gap(4096), 0);
    }

    // ---- promise 16: draw

    private static void promise16TheLeastBIs1() {
        LongAgoDraws x = Benches.row(1, 1);
        Due.is("one needle", x.draw(), 1);
        Due.is("its NUMBER", x.drawn(0), Lots.lot(0, -1) < 32768 ? 0 : 1);
        x = Benches.ofTops(5);
        x.hold(0, 3);
        Due.is("HIGHEST is LOWEST", x.draw(), 1);
        Due.is("it is that", x.drawn(0), 3);
    }

    private static void promise16TheGreatestBIs4096() {
        LongAgoDraws x = stubborn(1);
        Due.is("the DRAW", x.draw(), 4096);
        Due.isTrue("they met so far back", x.met() >= -4096 && x.met() < 0);
    }

    private static void promise16NoIfTheyDoNotMeetBy4096() {
        Edges.refused(() -> stubborn(18), NO, LongAgoDraws::draw);
        Due.is("nothing is DRAWN", stubborn(18).told(6), 0);
    }

    private static void promise16WhatWasDrawnStaysIfTheyDoNotMeet() {
        Edges.refused(EdgesOfDrawsTest::stubbornAndDrawn, NO, LongAgoDraws::draw);
        LongAgoDraws x = stubbornAndDrawn();
        long drawn = Edges.drawn(x);
        int met = x.met();
        x.draw();
        Due.is("what was DRAWN", Edges.drawn(x), drawn);
        Due.is("where THEY MET", x.met(), met);
        Due.is("something is DRAWN", x.told(6), 1);
        Due.is("it can be taken", x.take(2), 1);
    }

    private static void promise16NoWhereItIsNotGood() {
        Edges.refused(Benches::notGood, NO, LongAgoDraws::draw);
        Edges.refused(Benches::heldTooFar, NO, LongAgoDraws::draw);
        Edges.refused(Benches::ofOneSide, NO, LongAgoDraws::draw);
        Edges.refused(LongAgoDraws::new, NO, LongAgoDraws::draw);
    }

    private static void promise16TheStateAtHandStays() {
        LongAgoDraws x = Benches.busy();
        x.draw();
        Due.is("at hand", Edges.atHand(x), 11);
        Due.is("SEED", x.told(5), 7);
    }

    private static void promise16NotByTheStateAtHand() {
        LongAgoDraws x = Benches.busy();
        Due.is("the same again", x.draw(), 16);
        x.take(0);
        Due.is("with HIGHEST at hand", x.draw(), 16);
        Due.is("DRAWN", Edges.drawn(x), 100);
    }

    private static void promise16SeedsOfTheLeastAndTheGreatestInt() {
        int[] seeds = {LEAST, MOST};
        for (int seed : seeds) {
            LongAgoDraws x = Benches.row(1, 1);
            x.seed(seed);
            Due.is("B", x.draw(), 1);
            Due.is("DRAWN", x.drawn(0), Lots.lot(seed, -1) < 32768 ? 0 : 1);
        }
    }

    private static void promise16All24PlacesAnd60Links() {
        LongAgoDraws x = Benches.full(5);
        x.kind(HEIGHTS, 1, 1);
        x.hold(0, 5);
        int back = x.draw();
        Due.isTrue("B", back >= 1 && back <= 4096);
        Due.is("the HELD one", x.drawn(0), 5);
        Due.isTrue("the last one is in its bounds", x.drawn(23) >= x.lowest(23) && x.drawn(23) <= x.highest(23));
    }

    // ---- promise 17: drawn

    private static void promise17APlaceThatIsUnknown() {
        Edges.unknown(Benches::busy, LongAgoDraws::drawn);
        Edges.unknown(Benches::fresh, LongAgoDraws::drawn);
    }

    private static void promise17NothingIsDrawn() {
        Edges.refused(Benches::fresh, STATE, LongAgoDraws::drawn, 0, 1, 2);
        Edges.refused(Benches::notGood, STATE, LongAgoDraws::drawn, 0, 1, 2);
        Edges.refused(() -> stubborn(18), STATE, x -> {
            x.draw();
            return x.drawn(0);
        });
    }

    private static void promise17TheFirstAndTheLastOf24Places() {
        LongAgoDraws x = Benches.row(24, 1);
        x.draw();
        int[] places = {0, 23};
        for (int p : places) {
            int t = -1;
            while (Lots.place(0, t, 24) != p) {
                t--;
            }
            Due.is("by the last TICK of " + p, x.drawn(p), Lots.lot(0, t) < 32768 ? 0 : 1);
        }
        Due.is("24", x.drawn(24), -1);
    }

    // ---- promise 18: met

    private static void promise18NothingIsDrawnIs1() {
        Due.is("at first", Benches.fresh().met(), 1);
        Due.is("no PLACE", new LongAgoDraws().met(), 1);
        Due.is("not GOOD", Benches.notGood().met(), 1);
        LongAgoDraws x = stubborn(18);
        x.draw();
        Due.is("they do not meet", x.met(), 1);
        x = Benches.busy();
        x.hold(0, -1);
        Due.is("gone", x.met(), 1);
    }

    private static void promise18HighestIsLowestIs0() {
        LongAgoDraws x = Benches.ofTops(5, 5);
        x.hold(0, 1);
        x.hold(1, 2);
        Due.is("B", x.draw(), 1);
        Due.is("met", x.met(), 0);
    }

    private static void promise18HighestIsLowestIs0BehindAnotherDraw() {
        LongAgoDraws x = Benches.ofTops(5);
        x.draw();
        Due.isTrue("met by a TICK", x.met() < 0);
        x.hold(0, 2);
        x.draw();
        Due.is("met", x.met(), 0);
    }

    private static void promise18TheLastTickIsMinus1() {
        LongAgoDraws x = Benches.row(1, 1);
        x.draw();
        Due.is("B 1", x.met(), -1);
        x = Benches.row(2, 1);
        int seed = 0;
        while (Lots.place(seed, -2, 2) == Lots.place(seed, -1, 2)) {
            seed++;
        }
        x.seed(seed);
        Due.is("two PLACES by two TICKS", x.draw(), 2);
        Due.is("B 2", x.met(), -1);
    }

    private static void promise18TheFirstTickIsMinusB() {
        LongAgoDraws x = Benches.ofTops(1, 1);
        x.hold(0, 0);
        // TICK -1 is of the HELD PLACE, TICK -2 of the other.
        int seed = 0;
        while (Lots.place(seed, -2, 2) != 1 || Lots.place(seed, -1, 2) != 0) {
            seed++;
        }
        x.seed(seed);
        Due.is("B", x.draw(), 2);
        Due.is("met", x.met(), -2);
    }

    private static void promise18FarBack() {
        LongAgoDraws x = Benches.ofTops(1, 1);
        x.hold(0, 0);
        // The last eight TICKS are of the HELD PLACE, so B is 16.
        int seed = 0;
        while (!lastEightOfPlace0(seed)) {
            seed++;
        }
        x.seed(seed);
        int first = -16;
        while (Lots.place(seed, first, 2) != 1) {
            first++;
        }
        Due.is("B", x.draw(), 16);
        Due.is("met", x.met(), first);
    }

    private static boolean lastEightOfPlace0(int seed) {
        for (int t = -8; t < 0; t++) {
            if (Lots.place(seed, t, 2) != 0) {
                return false;
            }
        }
        for (int t = -16; t < -8; t++) {
            if (Lots.place(seed, t, 2) != 0) {
                return true;
            }
        }
        return false;
    }

    // ---- promise 19: tally

    private static void promise19APlaceThatIsUnknown() {
        Edges.unknown(Benches::busy, (x, p) -> x.tally(p, 0, 1));
        Edges.unknown(Benches::notGood, (x, p) -> x.tally(p, 0, 0));
    }

    private static void promise19One() {
        LongAgoDraws x = Benches.busy();
        Due.is("of the SEED 7", x.tally(0, 7, 1), 1);
        Due.is("of the SEED 7, another PLACE", x.tally(1, 7, 1), 0);
    }

    private static void promise19Eight() {
        LongAgoDraws x = Benches.ofTops(5);
        x.hold(0, 5);
        Due.is("eight times 5", x.tally(0, 0, 8), 40);
        Due.is("by hand", Benches.row(1, 1).tally(0, 100, 8), byHand(100, 8));
    }

    private static void promise19Below1IsOutside() {
        Edges.refused(Benches::busy, OUTSIDE, (x, n) -> x.tally(0, 0, n), 0, -1, LEAST);
    }

    private static void promise19Above8IsOutside() {
        Edges.refused(Benches::busy, OUTSIDE, (x, n) -> x.tally(0, 0, n), 9, 10, MOST);
    }

    /** Of one needle: the sum of its NUMBERS by the LOTS of TICK -1. */
    private static int byHand(int s, int n) {
        int sum = 0;
        for (int i = 0; i < n; i++) {
            sum += Lots.lot(s + i, -1) < 32768 ? 0 : 1;
        }
        return sum;
    }

    private static void promise19SeedsWrapBehindTheGreatestInt() {
        LongAgoDraws x = Benches.row(1, 1);
        for (int n = 1; n <= 8; n++) {
            Due.is("from the greatest, " + n, x.tally(0, MOST, n), byHand(MOST, n));
            Due.is("over it, " + n, x.tally(0, MOST - 3, n), byHand(MOST - 3, n));
            Due.is("from the least, " + n, x.tally(0, LEAST, n), byHand(LEAST, n));
            Due.is("over 0, " + n, x.tally(0, -3, n), byHand(-3, n));
        }
    }

    private static void promise19NoWhereItIsNotGood() {
        Edges.refused(Benches::notGood, NO, x -> x.tally(0, 0, 1));
        Edges.refused(Benches::heldTooFar, NO, x -> x.tally(0, 0, 8));
        Edges.refused(Benches::ofOneSide, NO, x -> x.tally(0, 0, 8));
    }

    private static void promise19NoIfOneDoesNotMeet() {
        Edges.refused(EdgesOfDrawsTest::stubbornAndDrawn, NO, x -> x.tally(0, 18, 1));
        Edges.refused(EdgesOfDrawsTest::stubbornAndDrawn, NO, x -> x.tally(0, 17, 2));
        Edges.refused(EdgesOfDrawsTest::stubbornAndDrawn, NO, x -> x.tally(0, 18, 2));
        Edges.refused(EdgesOfDrawsTest::stubbornAndDrawn, NO, x -> x.tally(0, 15, 8));
    }

    private static void promise19TheSeedBehindTheLastIsNotDrawn() {
        int least = 18;
        while (least > 11 && stubbornDraws(least - 1)) {
            least--;
        }
        Due.isTrue("there is one ahead of it that meets", least < 18);
        LongAgoDraws x = stubborn(0);
        Due.isTrue("ahead of 18", x.tally(0, least, 18 - least) >= 0);
        Due.is("with 18", x.tally(0, least, 19 - least), NO);
    }

    private static boolean stubbornDraws(int seed) {
        return stubborn(seed).draw() > 0;
    }

    private static void promise19SeedAndWhatIsDrawnStay() {
        LongAgoDraws x = Benches.busy();
        x.tally(0, 100, 8);
        Due.is("SEED", x.told(5), 7);
        Due.is("DRAWN", Edges.drawn(x), 100);
        Due.is("met", x.met(), -11);
        Due.is("at hand", Edges.atHand(x), 11);
        x = Benches.fresh();
        x.tally(0, 100, 8);
        Due.is("nothing is DRAWN still", x.told(6), 0);
    }
}

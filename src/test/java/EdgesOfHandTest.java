/** The edges that promises 9 to 14 name: the state at hand. */
public final class EdgesOfHandTest {
    private static final int UNKNOWN = -1, OUTSIDE = -2, STATE = -3, NO = -5;
    private static final int LEAST = Integer.MIN_VALUE, MOST = Integer.MAX_VALUE;
    private static final int HEIGHTS = 1, GUESTS = 2;

    public static void main(String[] args) throws IllegalAccessException {
        Edges.run(EdgesOfHandTest.class, "promise", 9, 14);
    }

    // ---- promise 9: at

    private static void promise9APlaceThatIsUnknown() {
        Edges.unknown(Benches::busy, LongAgoDraws::at);
        Edges.unknown(Benches::notGood, LongAgoDraws::at);
    }

    private static void promise9TheFirstAndTheLastOf24Places() {
        LongAgoDraws x = Benches.row(24, 1);
        x.put(0, 1);
        x.put(23, 1);
        Due.is("0", x.at(0), 1);
        Due.is("22", x.at(22), 0);
        Due.is("23", x.at(23), 1);
        Due.is("24", x.at(24), UNKNOWN);
    }

    private static void promise9AsksForNoGoodSystem() {
        Due.is("what was put", Edges.atHand(Benches.notGood()), 100);
        Due.is("where none is ALLOWED", Edges.atHand(Benches.heldTooFar()), 0);
    }

    // ---- promise 10: put

    private static void promise10APlaceThatIsUnknown() {
        Edges.unknown(Benches::busy, (x, p) -> x.put(p, 0));
        Edges.unknown(Benches::notGood, (x, p) -> x.put(p, 0));
    }

    private static void promise10TheLeastNumberIs0() {
        LongAgoDraws x = Benches.ofTops(5);
        x.take(0);
        Due.is("0", x.put(0, 0), 5);
        Due.is("it is there", x.at(0), 0);
    }

    private static void promise10TheGreatestNumberIsItsTop() {
        for (int top = 1; top <= 5; top++) {
            LongAgoDraws x = Benches.ofTops(top);
            Due.is("TOP " + top, x.put(0, top), 0);
            Due.is("it is there", x.at(0), top);
        }
    }

    private static void promise10ANumberBelow0IsOutside() {
        Edges.refused(Benches::busy, OUTSIDE, (x, number) -> x.put(0, number), -1, -2, LEAST);
        Edges.refused(Benches::notGood, OUTSIDE, x -> x.put(0, -1));
    }

    private static void promise10ANumberAboveItsTopIsOutside() {
        Edges.refused(Benches::busy, OUTSIDE, (x, number) -> x.put(0, number), 4, 5, MOST);
        for (int top = 1; top <= 5; top++) {
            int one = top;
            Edges.refused(() -> Benches.ofTops(one), OUTSIDE, x -> x.put(0, one + 1));
        }
    }

    private static void promise10NoByNeedlesFrom2On() {
        Edges.refused(Benches::busy, NO, (x, number) -> x.put(0, number), 2, 3);
        Edges.refused(Benches::notGood, NO, (x, number) -> x.put(0, number), 2, 3);
    }

    private static void promise10NoByHeightsThatDifferBy2() {
        LongAgoDraws x = Benches.path(3, 5);
        x.kind(HEIGHTS, 1, 1);
        Due.is("2 beside 0 and 0", x.put(1, 2), NO);
        Due.is("1 beside 0 and 0", x.put(1, 1), 0);
        Due.is("2 beside 1", x.put(2, 2), 0);
        Due.is("2 beside 0 and 2", x.put(1, 2), NO);
        Due.is("0 beside 0 and 2", x.put(1, 0), NO);
        Due.is("at hand", Edges.atHand(x), 12);
    }

    private static void promise10NoByAHeldHeight() {
        LongAgoDraws x = Benches.ofTops(5, 5);
        x.hold(0, 3);
        Due.is("one above", x.put(0, 4), NO);
        Due.is("one below", x.put(0, 2), NO);
        Due.is("the same", x.put(0, 3), 3);
        Due.is("another PLACE", x.put(1, 5), 0);
    }

    private static void promise10NoByTwoGuestsOfALink() {
        LongAgoDraws x = Benches.path(3, 5);
        x.kind(GUESTS, 1, 1);
        Due.is("beside a guest", x.put(0, 1), NO);
        Due.is("2", x.put(0, 2), NO);
        Due.is("the guest goes", x.put(1, 0), 1);
        Due.is("no guest beside", x.put(0, 1), 0);
        Due.is("beside one of two", x.put(1, 1), NO);
    }

    private static void promise10NoByHeightsOfWhichNoneIsAllowed() {
        Edges.refused(Benches::heldTooFar, NO, (x, number) -> x.put(0, number), 0, 1, 5);
        Edges.refused(Benches::heldTooFar, NO, (x, number) -> x.put(1, number), 0, 1, 2);
    }

    private static void promise10WhatIsAllowedIsPutThoughNotGood() {
        LongAgoDraws x = Benches.notGood();
        Due.is("needles", x.put(2, 1), 0);
        Due.is("at hand", Edges.atHand(x), 101);
        x = Benches.ofOneSide();
        Due.is("the guest goes", x.put(0, 0), 1);
        Due.is("the other comes", x.put(1, 1), 0);
        Due.is("not both", x.put(0, 1), NO);
        Due.is("at hand of guests", Edges.atHand(x), 1);
    }

    private static void promise10TheSameNumberIsPutToo() {
        LongAgoDraws x = Benches.busy();
        Due.is("1 at 1", x.put(1, 1), 1);
        Due.is("at hand", Edges.atHand(x), 11);
        Due.is("what is DRAWN stays", Edges.drawn(x), 100);
    }

    // ---- promise 11: take

    private static void promise11From0To2() {
        LongAgoDraws x = Benches.busy();
        Due.is("0", x.take(0), 1);
        Due.is("HIGHEST", Edges.atHand(x), 111);
        Due.is("1", x.take(1), 1);
        Due.is("LOWEST", Edges.atHand(x), 0);
        Due.is("2", x.take(2), 1);
        Due.is("what is DRAWN", Edges.atHand(x), 100);
    }

    private static void promise11Below0IsOutside() {
        Edges.refused(Benches::busy, OUTSIDE, LongAgoDraws::take, -1, -2, LEAST);
    }

    private static void promise11Above2IsOutside() {
        Edges.refused(Benches::busy, OUTSIDE, LongAgoDraws::take, 3, 4, MOST);
    }

    private static void promise11NothingIsDrawn() {
        Edges.refused(Benches::fresh, STATE, x -> x.take(2));
        Edges.refused(Benches::notGood, STATE, x -> x.take(2));
        Edges.refused(Benches::heldTooFar, STATE, x -> x.take(2));
        Edges.refused(LongAgoDraws::new, STATE, x -> x.take(2));
    }

    private static void promise11NothingIsDrawnButTheBoundsAreTaken() {
        LongAgoDraws x = Benches.fresh();
        Due.is("HIGHEST", x.take(0), 1);
        Due.is("LOWEST", x.take(1), 1);
    }

    private static void promise11NoWhereItIsNotGood() {
        Edges.refused(Benches::notGood, NO, LongAgoDraws::take, 0, 1);
        Edges.refused(Benches::heldTooFar, NO, LongAgoDraws::take, 0, 1);
        Edges.refused(Benches::ofOneSide, NO, LongAgoDraws::take, 0, 1);
    }

    private static void promise11WhatIsDrawnIsTakenWhateverWasRunSince() {
        LongAgoDraws x = Benches.busy();
        x.gap(0);
        x.take(2);
        Due.is("behind a gap", Edges.atHand(x), 100);
        x.take(0);
        x.tally(0, 8, 8);
        x.take(2);
        Due.is("behind a tally", Edges.atHand(x), 100);
        x.seed(8);
        x.run(0, 100);
        x.take(2);
        Due.is("behind another SEED and a run", Edges.atHand(x), 100);
    }

    private static void promise11WhatIsTakenIsAnotherRow() {
        LongAgoDraws x = Benches.busy();
        x.take(2);
        x.put(0, 0);
        Due.is("DRAWN stays", Edges.drawn(x), 100);
        x.take(0);
        x.put(0, 0);
        Due.is("HIGHEST stays", x.highest(0), 1);
        x.take(1);
        x.put(0, 1);
        Due.is("LOWEST stays", x.lowest(0), 0);
    }

    // ---- promise 12: seed

    private static void promise12AnyInt() {
        LongAgoDraws x = new LongAgoDraws();
        int[] seeds = {LEAST, MOST, -1, 1, 0};
        int before = 0;
        for (int s : seeds) {
            Due.is("which it was", x.seed(s), before);
            Due.is("it is told", x.told(5), s);
            before = s;
        }
    }

    private static void promise12SeedsThatLookLikeRefusals() {
        LongAgoDraws x = new LongAgoDraws();
        for (int s = -1; s >= -6; s--) {
            x.seed(s);
            Due.is("told", x.told(5), s);
            Due.is("which it was", x.seed(0), s);
        }
    }

    private static void promise12WhatIsDrawnAndAtHandStays() {
        LongAgoDraws x = Benches.busy();
        Due.is("which it was", x.seed(7), 7);
        x.seed(MOST);
        Due.is("DRAWN", Edges.drawn(x), 100);
        Due.is("met", x.met(), -11);
        Due.is("at hand", Edges.atHand(x), 11);
    }

    private static void promise12TheSystemsChangesLeaveIt() {
        LongAgoDraws x = new LongAgoDraws();
        x.seed(LEAST);
        x.place(1, 0);
        x.place(1, 0);
        x.link(0, 1);
        x.kind(GUESTS, 1, 1);
        x.hold(0, 1);
        Due.is("the SEED", x.told(5), LEAST);
    }

    // ---- promise 13: tick

    private static void promise13From0To1() {
        LongAgoDraws x = Benches.row(5, 1);
        x.seed(3);
        Due.is("PLACE", x.tick(9, 0), Lots.place(3, 9, 5));
        Due.is("LOT", x.tick(9, 1), Lots.lot(3, 9));
    }

    private static void promise13Below0IsOutside() {
        Edges.refused(Benches::busy, OUTSIDE, (x, what) -> x.tick(0, what), -1, -2, LEAST);
    }

    private static void promise13Above1IsOutside() {
        Edges.refused(Benches::busy, OUTSIDE, (x, what) -> x.tick(0, what), 2, 3, MOST);
    }

    private static void promise13NoPlacesIsState() {
        int[] ticks = {0, 1, -1, LEAST, MOST};
        for (int t : ticks) {
            Edges.refused(LongAgoDraws::new, STATE, (x, what) -> x.tick(t, what), 0, 1);
        }
    }

    private static void promise13OnePlaceIsThatOfEachTick() {
        LongAgoDraws x = Benches.row(1, 1);
        int[] ticks = {0, 1, -1, LEAST, MOST};
        for (int t : ticks) {
            Due.is("PLACE of " + t, x.tick(t, 0), 0);
        }
    }

    private static void promise13AnyTickOfAnySeed() {
        int[] numbers = {LEAST, LEAST + 1, -4096, -1, 0, 1, MOST - 1, MOST};
        for (int seed : numbers) {
            LongAgoDraws x = Benches.row(23, 1);
            x.seed(seed);
            for (int t : numbers) {
                Due.is("PLACE of " + t + " by " + seed, x.tick(t, 0), Lots.place(seed, t, 23));
                Due.is("LOT of " + t + " by " + seed, x.tick(t, 1), Lots.lot(seed, t));
            }
        }
    }

    private static void promise13AsksForNoGoodSystem() {
        LongAgoDraws x = Benches.notGood();
        Due.is("PLACE", x.tick(4, 0), Lots.place(7, 4, 3));
        Due.is("LOT", x.tick(4, 1), Lots.lot(7, 4));
    }

    // ---- promise 14: run

    private static void promise14FromTToTIsNoTick() {
        int[] ticks = {0, -1, 1, LEAST, MOST};
        for (int t : ticks) {
            LongAgoDraws x = Benches.busy();
            Due.is("from and to " + t, x.run(t, t), 0);
            Due.is("at hand", Edges.atHand(x), 11);
        }
    }

    private static void promise14EBelowTIsOutside() {
        Edges.refused(Benches::busy, OUTSIDE, x -> x.run(0, -1));
        Edges.refused(Benches::busy, OUTSIDE, x -> x.run(1, 0));
        Edges.refused(Benches::busy, OUTSIDE, x -> x.run(LEAST + 1, LEAST));
        Edges.refused(Benches::busy, OUTSIDE, x -> x.run(MOST, MOST - 1));
    }

    private static void promise14EBelowTByMoreThanAnIntIsOutside() {
        // As ints, e less t is 1, 20000 and 0 here.
        Edges.refused(Benches::busy, OUTSIDE, x -> x.run(MOST, LEAST));
        Edges.refused(Benches::busy, OUTSIDE, x -> x.run(MOST, LEAST + 19999));
        Edges.refused(Benches::busy, OUTSIDE, x -> x.run(0, LEAST));
    }

    private static void promise14By20000IsTaken() {
        int[] starts = {0, -20000, -10000, LEAST, MOST - 20000};
        for (int t : starts) {
            LongAgoDraws x = Benches.busy();
            Due.isTrue("from " + t, x.run(t, t + 20000) > 0);
        }
    }

    private static void promise14By20001IsOutside() {
        Edges.refused(Benches::busy, OUTSIDE, (x, t) -> x.run(t, t + 20001), 0, -20001, -1, LEAST, MOST - 20001);
    }

    private static void promise14FarAboveIsOutside() {
        Edges.refused(Benches::busy, OUTSIDE, x -> x.run(0, MOST));
        Edges.refused(Benches::busy, OUTSIDE, x -> x.run(LEAST, 0));
        // As an int, e less t is -1 here.
        Edges.refused(Benches::busy, OUTSIDE, x -> x.run(LEAST, MOST));
        Edges.refused(Benches::busy, OUTSIDE, x -> x.run(-1, MOST));
    }

    private static void promise14NoWhereItIsNotGood() {
        Edges.refused(Benches::notGood, NO, x -> x.run(0, 1));
        Edges.refused(Benches::notGood, NO, x -> x.run(0, 0));
        Edges.refused(Benches::notGood, NO, x -> x.run(0, 20000));
        Edges.refused(Benches::heldTooFar, NO, x -> x.run(0, 1));
        Edges.refused(Benches::ofOneSide, NO, x -> x.run(0, 1));
    }

    private static void promise14HowManyTicksChangedItNotHowManyWereRun() {
        LongAgoDraws x = Benches.row(1, 1);
        int due = 0;
        int at = 0;
        for (int t = 0; t < 20000; t++) {
            int next = Lots.lot(0, t) < 32768 ? 0 : 1;
            due += next == at ? 0 : 1;
            at = next;
        }
        Due.is("20000 of one needle", x.run(0, 20000), due);
        Due.is("its end", x.at(0), at);
    }

    private static void promise14AStateThatNoTickChanges() {
        LongAgoDraws x = Benches.ofTops(5);
        x.hold(0, 3);
        Due.is("20000 of a HELD one", x.run(-20000, 0), 0);
        Due.is("it is there", x.at(0), 3);
    }

    private static void promise14TheFirstAndTheLastTicksThatThereAre() {
        int[] starts = {LEAST, -2, -1, MOST - 2};
        for (int t : starts) {
            LongAgoDraws x = Benches.row(1, 1);
            x.seed(11);
            int first = Lots.lot(11, t) < 32768 ? 0 : 1;
            int second = Lots.lot(11, t + 1) < 32768 ? 0 : 1;
            Due.is("two from " + t, x.run(t, t + 2), first + (first == second ? 0 : 1));
            Due.is("their end, from " + t, x.at(0), second);
        }
    }

    private static void promise14WhatIsDrawnAndTheSeedStay() {
        LongAgoDraws x = Benches.busy();
        x.run(0, 20000);
        Due.is("DRAWN", Edges.drawn(x), 100);
        Due.is("met", x.met(), -11);
        Due.is("SEED", x.told(5), 7);
    }
}

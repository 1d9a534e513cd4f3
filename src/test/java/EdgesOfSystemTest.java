/** The edges that promises 1 to 8 name: a new object and its system. */
public final class EdgesOfSystemTest {
    private static final int UNKNOWN = -1, OUTSIDE = -2, STATE = -3, FULL = -4, NO = -5;
    private static final int LEAST = Integer.MIN_VALUE, MOST = Integer.MAX_VALUE;
    private static final int NEEDLES = 0, HEIGHTS = 1, GUESTS = 2;

    public static void main(String[] args) throws IllegalAccessException {
        Edges.run(EdgesOfSystemTest.class, "promise", 1, 8);
    }

    // ---- promise 1: a new object

    private static void promise1NoPlacesAndNoLinks() {
        LongAgoDraws x = new LongAgoDraws();
        Due.is("PLACES", x.told(0), 0);
        Due.is("LINKS", x.told(1), 0);
        Due.is("LINKS with like NUMBERS", x.told(7), 0);
    }

    private static void promise1NeedlesWithUAndV1() {
        LongAgoDraws x = new LongAgoDraws();
        Due.is("KIND", x.told(2), NEEDLES);
        Due.is("u", x.told(3), 1);
        Due.is("v", x.told(4), 1);
    }

    private static void promise1Seed0() {
        Due.is("told", new LongAgoDraws().told(5), 0);
        Due.is("seed", new LongAgoDraws().seed(1), 0);
    }

    private static void promise1NothingDrawn() {
        LongAgoDraws x = new LongAgoDraws();
        Due.is("told", x.told(6), 0);
        Due.is("met", x.met(), 1);
    }

    private static void promise1ObjectsShareNothing() {
        LongAgoDraws x = Benches.busy();
        LongAgoDraws y = new LongAgoDraws();
        y.place(5, 1);
        y.kind(HEIGHTS, 2, 2);
        Due.is("the first one's PLACES", x.told(0), 3);
        Due.is("the first one's KIND", x.told(2), NEEDLES);
        Due.is("the first one's TOP", x.about(0, 0), 3);
        Due.is("the second one's SEED", y.told(5), 0);
        Due.is("the second one's HIGHEST", y.highest(0), 5);
    }

    private static void promise1WithoutPlacesNoNumberIsAPlace() {
        int[] numbers = {0, -1, 1, LEAST, MOST};
        for (int p : numbers) {
            LongAgoDraws x = new LongAgoDraws();
            Due.is("link", x.link(p, p), UNKNOWN);
            Due.is("hold", x.hold(p, -1), UNKNOWN);
            Due.is("highest", x.highest(p), UNKNOWN);
            Due.is("lowest", x.lowest(p), UNKNOWN);
            Due.is("at", x.at(p), UNKNOWN);
            Due.is("put", x.put(p, 0), UNKNOWN);
            Due.is("drawn", x.drawn(p), UNKNOWN);
            Due.is("tally", x.tally(p, 0, 1), UNKNOWN);
            Due.is("mean", x.mean(p, 0), UNKNOWN);
            Due.is("alike", x.alike(p, p, 0), UNKNOWN);
            Due.is("about", x.about(p, 0), UNKNOWN);
        }
    }

    private static void promise1WithoutPlacesWhatAsksForAGoodOneIsNo() {
        for (int kind = 0; kind <= 2; kind++) {
            LongAgoDraws x = new LongAgoDraws();
            x.kind(kind, 1, 1);
            Due.is("take highest", x.take(0), NO);
            Due.is("take lowest", x.take(1), NO);
            Due.is("run", x.run(0, 1), NO);
            Due.is("run of no TICK", x.run(0, 0), NO);
            Due.is("gap", x.gap(0), NO);
            Due.is("gap of 4096", x.gap(4096), NO);
            Due.is("draw", x.draw(), NO);
            Due.is("many", x.many(), NO);
            Due.is("all", x.all(), NO);
            Due.is("chance", x.chance(0), NO);
        }
    }

    // ---- promise 2: place

    private static void promise2TheLeastTopIs1() {
        LongAgoDraws x = new LongAgoDraws();
        Due.is("1", x.place(1, 0), 0);
        Due.is("its TOP", x.about(0, 0), 1);
    }

    private static void promise2TheGreatestTopIs5() {
        LongAgoDraws x = new LongAgoDraws();
        Due.is("5", x.place(5, 0), 0);
        Due.is("its TOP", x.about(0, 0), 5);
    }

    private static void promise2ATopBelow1IsOutside() {
        Edges.refused(Benches::busy, OUTSIDE, (x, top) -> x.place(top, 0), 0, -1, LEAST);
    }

    private static void promise2ATopAbove5IsOutside() {
        Edges.refused(Benches::busy, OUTSIDE, (x, top) -> x.place(top, 1), 6, 7, MOST);
    }

    private static void promise2SidesAre0And1() {
        LongAgoDraws x = new LongAgoDraws();
        Due.is("0", x.place(2, 0), 0);
        Due.is("1", x.place(2, 1), 1);
        Due.is("SIDE 0", x.about(0, 1), 0);
        Due.is("SIDE 1", x.about(1, 1), 1);
    }

    private static void promise2ASideBelow0IsOutside() {
        Edges.refused(Benches::busy, OUTSIDE, (x, side) -> x.place(1, side), -1, -2, LEAST);
    }

    private static void promise2ASideAbove1IsOutside() {
        Edges.refused(Benches::busy, OUTSIDE, (x, side) -> x.place(1, side), 2, 3, MOST);
    }

    private static void promise2The24thIsTakenThe25thIsFull() {
        LongAgoDraws x = Benches.row(23, 5);
        Due.is("the 24th", x.place(5, 1), 23);
        Due.is("the 25th", x.place(5, 1), FULL);
        Edges.refused(() -> Benches.row(24, 5), FULL, y -> y.place(1, 0));
    }

    private static void promise2OutsideBeforeFull() {
        Edges.refused(() -> Benches.row(24, 1), OUTSIDE, x -> x.place(6, 0));
        Edges.refused(() -> Benches.row(24, 1), OUTSIDE, x -> x.place(1, -1));
    }

    private static void promise2ANewPlaceIsNotHeldAndHasNoNeighbours() {
        LongAgoDraws x = Benches.busy();
        x.place(5, 1);
        Due.is("not HELD", x.about(3, 2), -1);
        Due.is("no neighbours", x.about(3, 3), 0);
    }

    // ---- promise 3: link

    private static void promise3TheFirstPlaceThatIsUnknown() {
        Edges.unknown(Benches::busy, (x, p) -> x.link(p, 0));
    }

    private static void promise3TheSecondPlaceThatIsUnknown() {
        Edges.unknown(Benches::busy, (x, p) -> x.link(0, p));
    }

    private static void promise3The60thIsTakenThe61stIsFull() {
        LongAgoDraws x = Benches.row(24, 1);
        int links = 0;
        for (int step = 1; step <= 3; step++) {
            for (int p = 0; p < 24 && links < 60; p++) {
                links++;
                Due.is("how many there are", x.link(p, (p + step) % 24), links);
            }
        }
        Due.is("the last taken", x.told(1), 60);
        Due.is("the 61st", x.link(20, 4), FULL);
        Edges.refused(() -> Benches.full(1), FULL, y -> y.link(17, 19));
    }

    private static void promise3TheSixthOfTheFirstIsTakenTheSeventhIsFull() {
        LongAgoDraws x = Benches.row(8, 1);
        for (int q = 1; q <= 6; q++) {
            Due.is("of the first", x.link(0, q), q);
        }
        Due.is("its seventh", x.link(0, 7), FULL);
        Edges.refused(Benches::sevenBesideOne, FULL, y -> y.link(0, 7));
    }

    private static void promise3TheSixthOfTheSecondIsTakenTheSeventhIsFull() {
        LongAgoDraws x = Benches.row(8, 1);
        for (int p = 1; p <= 6; p++) {
            Due.is("of the second", x.link(p, 0), p);
        }
        Due.is("its seventh", x.link(7, 0), FULL);
        Edges.refused(Benches::sevenBesideOne, FULL, y -> y.link(7, 0));
    }

    private static void promise3OnePlaceIsNo() {
        Edges.refused(Benches::busy, NO, (x, p) -> x.link(p, p), 0, 1, 2);
    }

    private static void promise3LinkedIsNoEitherWay() {
        Edges.refused(Benches::busy, NO, x -> x.link(0, 1));
        Edges.refused(Benches::busy, NO, x -> x.link(1, 0));
        Edges.refused(Benches::busy, NO, x -> x.link(2, 1));
    }

    private static void promise3FullBeforeOnePlaceAndLinked() {
        Edges.refused(Benches::sevenBesideOne, FULL, x -> x.link(0, 0));
        Edges.refused(Benches::sevenBesideOne, FULL, x -> x.link(0, 6));
        Edges.refused(Benches::sevenBesideOne, FULL, x -> x.link(6, 0));
        Edges.refused(() -> Benches.full(1), FULL, x -> x.link(0, 0));
        Edges.refused(() -> Benches.full(1), FULL, x -> x.link(1, 0));
    }

    private static void promise3TheFirstAndTheLastOf24Places() {
        LongAgoDraws x = Benches.row(24, 1);
        Due.is("0 and 23", x.link(0, 23), 1);
        Due.is("23 and 22", x.link(23, 22), 2);
        Due.is("neighbours of 23", x.about(23, 10) * 100 + x.about(23, 11), 22);
    }

    // ---- promise 4: kind

    private static void promise4KindsGoFrom0To2() {
        for (int kind = 0; kind <= 2; kind++) {
            LongAgoDraws x = new LongAgoDraws();
            Due.is("the KIND", x.kind(kind, 2, 2), 1);
            Due.is("it is told", x.told(2), kind);
        }
    }

    private static void promise4AKindBelow0IsOutside() {
        Edges.refused(Benches::busy, OUTSIDE, (x, kind) -> x.kind(kind, 1, 1), -1, -2, LEAST);
    }

    private static void promise4AKindAbove2IsOutside() {
        Edges.refused(Benches::busy, OUTSIDE, (x, kind) -> x.kind(kind, 1, 1), 3, 4, MOST);
    }

    private static void promise4UGoesFrom1To9() {
        LongAgoDraws x = new LongAgoDraws();
        Due.is("1", x.kind(HEIGHTS, 1, 5), 1);
        Due.is("1 is told", x.told(3), 1);
        Due.is("9", x.kind(HEIGHTS, 9, 5), 1);
        Due.is("9 is told", x.told(3), 9);
    }

    private static void promise4AUBelow1IsOutside() {
        Edges.refused(Benches::busy, OUTSIDE, (x, u) -> x.kind(NEEDLES, u, 1), 0, -1, LEAST);
        Edges.refused(Benches::busy, OUTSIDE, x -> x.kind(HEIGHTS, 0, 1));
        Edges.refused(Benches::busy, OUTSIDE, x -> x.kind(GUESTS, 0, 1));
    }

    private static void promise4AUAbove9IsOutside() {
        Edges.refused(Benches::busy, OUTSIDE, (x, u) -> x.kind(NEEDLES, u, 1), 10, 11, MOST);
        Edges.refused(Benches::busy, OUTSIDE, x -> x.kind(HEIGHTS, 10, 1));
        Edges.refused(Benches::busy, OUTSIDE, x -> x.kind(GUESTS, 10, 1));
    }

    private static void promise4VGoesFrom1To9() {
        LongAgoDraws x = new LongAgoDraws();
        Due.is("1", x.kind(HEIGHTS, 5, 1), 1);
        Due.is("1 is told", x.told(4), 1);
        Due.is("9", x.kind(HEIGHTS, 5, 9), 1);
        Due.is("9 is told", x.told(4), 9);
    }

    private static void promise4AVBelow1IsOutside() {
        Edges.refused(Benches::busy, OUTSIDE, (x, v) -> x.kind(NEEDLES, 1, v), 0, -1, LEAST);
        Edges.refused(Benches::busy, OUTSIDE, x -> x.kind(HEIGHTS, 1, 0));
        Edges.refused(Benches::busy, OUTSIDE, x -> x.kind(GUESTS, 1, 0));
    }

    private static void promise4AVAbove9IsOutside() {
        Edges.refused(Benches::busy, OUTSIDE, (x, v) -> x.kind(NEEDLES, 1, v), 10, 11, MOST);
        Edges.refused(Benches::busy, OUTSIDE, x -> x.kind(HEIGHTS, 1, 10));
        Edges.refused(Benches::busy, OUTSIDE, x -> x.kind(GUESTS, 1, 10));
    }

    private static void promise4AKindThatIsNotGoodIsTakenToo() {
        LongAgoDraws x = Benches.busy();
        Due.is("u is below v", x.kind(NEEDLES, 1, 9), 1);
        Due.is("it is not GOOD", x.good(), 0);
        Due.is("v", x.told(4), 9);
    }

    // ---- promise 5: hold

    private static void promise5HeldAt0AndAtItsTop() {
        for (int top = 1; top <= 5; top++) {
            LongAgoDraws x = Benches.ofTops(top);
            Due.is("at 0", x.hold(0, 0), -1);
            Due.is("at its TOP", x.hold(0, top), 0);
            Due.is("what it is HELD at", x.about(0, 2), top);
        }
    }

    private static void promise5NotHeldIsMinus1() {
        LongAgoDraws x = Benches.ofTops(3);
        Due.is("not HELD before", x.hold(0, -1), -1);
        Due.is("not HELD still", x.hold(0, 3), -1);
        Due.is("HELD before", x.hold(0, -1), 3);
        Due.is("free again", x.about(0, 2), -1);
        Due.is("HIGHEST", x.highest(0), 3);
        Due.is("LOWEST", x.lowest(0), 0);
    }

    private static void promise5ANumberBelowMinus1IsOutside() {
        Edges.refused(Benches::busy, OUTSIDE, (x, number) -> x.hold(1, number), -2, -3, LEAST);
    }

    private static void promise5ANumberAboveItsTopIsOutside() {
        Edges.refused(Benches::busy, OUTSIDE, (x, number) -> x.hold(1, number), 4, 5, MOST);
        for (int top = 1; top <= 5; top++) {
            int one = top;
            Edges.refused(() -> Benches.ofTops(one), OUTSIDE, x -> x.hold(0, one + 1));
        }
    }

    private static void promise5APlaceThatIsUnknown() {
        Edges.unknown(Benches::busy, (x, p) -> x.hold(p, 0));
        Edges.unknown(Benches::busy, (x, p) -> x.hold(p, -2));
    }

    private static void promise5HeldStaysByOtherKinds() {
        LongAgoDraws x = Benches.ofTops(5);
        x.hold(0, 4);
        x.kind(NEEDLES, 1, 1);
        x.kind(GUESTS, 1, 1);
        Due.is("HELD still", x.about(0, 2), 4);
        x.kind(HEIGHTS, 1, 1);
        Due.is("HIGHEST", x.highest(0), 4);
    }

    // ---- promise 6: good

    private static void promise6NeedlesByUAndV() {
        LongAgoDraws x = Benches.row(1, 1);
        x.kind(NEEDLES, 8, 9);
        Due.is("8 and 9", x.good(), 0);
        x.kind(NEEDLES, 9, 9);
        Due.is("9 and 9", x.good(), 1);
        x.kind(NEEDLES, 1, 1);
        Due.is("1 and 1", x.good(), 1);
        x.kind(NEEDLES, 1, 2);
        Due.is("1 and 2", x.good(), 0);
    }

    private static void promise6UAndVCountForNeedlesAlone() {
        LongAgoDraws x = Benches.path(2, 1);
        x.kind(HEIGHTS, 1, 9);
        Due.is("heights", x.good(), 1);
        x.kind(GUESTS, 1, 9);
        Due.is("guests", x.good(), 1);
    }

    private static void promise6HeightsOfWhichNoneIsAllowed() {
        LongAgoDraws x = Benches.path(2, 5);
        x.kind(HEIGHTS, 1, 1);
        x.hold(0, 1);
        x.hold(1, 3);
        Due.is("HELD at 1 and 3", x.good(), 0);
        x.hold(1, 2);
        Due.is("HELD at 1 and 2", x.good(), 1);
        x.hold(1, 0);
        Due.is("HELD at 1 and 0", x.good(), 1);
    }

    private static void promise6NoPlaceOnePlaceAnd24Places() {
        Due.is("none", new LongAgoDraws().good(), 0);
        Due.is("one", Benches.row(1, 1).good(), 1);
        Due.is("24", Benches.row(24, 1).good(), 1);
        Due.is("24 and 60 LINKS", Benches.full(1).good(), 1);
    }

    // ---- promises 7 and 8: highest and lowest

    private static void promise7APlaceThatIsUnknown() {
        Edges.unknown(Benches::busy, LongAgoDraws::highest);
        Edges.unknown(Benches::notGood, LongAgoDraws::highest);
    }

    private static void promise8APlaceThatIsUnknown() {
        Edges.unknown(Benches::busy, LongAgoDraws::lowest);
        Edges.unknown(Benches::notGood, LongAgoDraws::lowest);
    }

    private static void promise7NoWhereItIsNotGood() {
        Edges.refused(Benches::notGood, NO, LongAgoDraws::highest, 0, 1, 2);
        Edges.refused(Benches::heldTooFar, NO, LongAgoDraws::highest, 0, 1);
        Edges.refused(Benches::ofOneSide, NO, LongAgoDraws::highest, 0, 1);
    }

    private static void promise8NoWhereItIsNotGood() {
        Edges.refused(Benches::notGood, NO, LongAgoDraws::lowest, 0, 1, 2);
        Edges.refused(Benches::heldTooFar, NO, LongAgoDraws::lowest, 0, 1);
        Edges.refused(Benches::ofOneSide, NO, LongAgoDraws::lowest, 0, 1);
    }

    private static void promise7TheFirstAndTheLastOf24Places() {
        LongAgoDraws x = Benches.row(24, 5);
        x.kind(HEIGHTS, 1, 1);
        Due.is("0", x.highest(0), 5);
        Due.is("23", x.highest(23), 5);
        Due.is("24", x.highest(24), UNKNOWN);
    }

    private static void promise8TheFirstAndTheLastOf24Places() {
        LongAgoDraws x = Benches.row(24, 5);
        x.kind(GUESTS, 1, 1);
        Due.is("0", x.lowest(0), 0);
        Due.is("23", x.lowest(23), 1);
        Due.is("24", x.lowest(24), UNKNOWN);
    }

    private static void promise7ABoundComesOverTheWholePath() {
        LongAgoDraws x = Benches.path(24, 5);
        x.kind(HEIGHTS, 1, 1);
        x.hold(23, 0);
        for (int p = 0; p < 24; p++) {
            Due.is("at " + p, x.highest(p), Math.min(5, 23 - p));
        }
    }

    private static void promise8ABoundComesOverTheWholePath() {
        LongAgoDraws x = Benches.path(24, 5);
        x.kind(HEIGHTS, 1, 1);
        x.hold(23, 5);
        for (int p = 0; p < 24; p++) {
            Due.is("at " + p, x.lowest(p), Math.max(0, p - 18));
        }
    }

    private static void promise7ABoundComesByTheShorterWay() {
        LongAgoDraws x = Benches.path(5, 5);
        x.link(4, 0);
        x.kind(HEIGHTS, 1, 1);
        x.hold(0, 1);
        Due.is("one LINK away", x.highest(4), 2);
        Due.is("two LINKS away", x.highest(3), 3);
        Due.is("two LINKS away on the other side", x.highest(2), 3);
    }

    private static void promise7AnAnswerIsNotByWhatIsAtHand() {
        LongAgoDraws x = Benches.busy();
        Due.is("HIGHEST", x.highest(0), 1);
        Due.is("LOWEST", x.lowest(1), 0);
        Due.is("drawn before and still", Edges.drawn(x), 100);
        Due.is("nothing is met anew", x.met(), -11);
        Due.is("STATE where nothing is", Benches.fresh().drawn(0), STATE);
    }
}

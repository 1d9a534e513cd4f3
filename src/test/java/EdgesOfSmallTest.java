/** The edges that promises 20 to 26 name: small systems, and what can be told. */
public final class EdgesOfSmallTest {
    private static final int NONE = -6, UNKNOWN = -1, OUTSIDE = -2, FULL = -4, NO = -5;
    private static final int LEAST = Integer.MIN_VALUE, MOST = Integer.MAX_VALUE;
    private static final int NEEDLES = 0, HEIGHTS = 1, GUESTS = 2;

    public static void main(String[] args) throws IllegalAccessException {
        Edges.run(EdgesOfSmallTest.class, "promise", 20, 26);
    }

    /** A ring of 12 PLACES, by turns of both SIDES: 4096 STATES and 12 LINKS, as many as a SMALL one has. */
    private static LongAgoDraws ring(int kind, int u, int v) {
        LongAgoDraws x = Benches.path(12, 1);
        x.link(11, 0);
        x.kind(kind, u, v);
        return x;
    }

    /** As the ring, but with a LINK more. */
    private static LongAgoDraws ringAndOneLink() {
        LongAgoDraws x = ring(NEEDLES, 2, 1);
        x.link(0, 3);
        return x;
    }

    private static LongAgoDraws of5000States() {
        return Benches.ofTops(4, 4, 4, 4, 1, 1, 1);
    }

    private static LongAgoDraws of5120States() {
        return Benches.ofTops(4, 3, 3, 3, 3, 3);
    }

    private static void noThenFull(Edges.Call call) {
        Edges.refused(LongAgoDraws::new, NO, call);
        Edges.refused(Benches::notGood, NO, call);
        Edges.refused(Benches::heldTooFar, NO, call);
        Edges.refused(Benches::ofOneSide, NO, call);
        Edges.refused(Benches::largeNotGood, NO, call);
        fullByTooMany(call);
    }

    private static void fullByTooMany(Edges.Call call) {
        Edges.refused(Benches::large, FULL, call);
        Edges.refused(EdgesOfSmallTest::of5120States, FULL, call);
        Edges.refused(EdgesOfSmallTest::ringAndOneLink, FULL, call);
        Edges.refused(() -> Benches.full(5), FULL, call);
    }

    // ---- promise 20: many

    private static void promise20NoThenFull() {
        noThenFull(LongAgoDraws::many);
    }

    private static void promise20OneIsAllowed() {
        LongAgoDraws x = Benches.ofTops(5, 5);
        x.hold(0, 5);
        x.hold(1, 0);
        Due.is("all HELD", x.many(), 1);
    }

    private static void promise20OnePlace() {
        Due.is("needles", Benches.row(1, 5).many(), 2);
        Due.is("heights", Benches.ofTops(5).many(), 6);
    }

    private static void promise20The5000StatesThatAreSmall() {
        Due.is("heights", of5000States().many(), 5000);
    }

    private static void promise20The12LinksThatAreSmall() {
        Due.is("needles of a ring", ring(NEEDLES, 1, 1).many(), 4096);
        Due.is("guests of a ring", ring(GUESTS, 1, 1).many(), 322);
    }

    private static void promise20NotByWeights() {
        Due.is("needles of a ring", ring(NEEDLES, 9, 1).many(), 4096);
        Due.is("guests of a ring", ring(GUESTS, 9, 1).many(), 322);
    }

    // ---- promise 21: all

    private static void promise21NoThenFull() {
        noThenFull(LongAgoDraws::all);
    }

    private static void promise21TheLeastWeightIs1() {
        LongAgoDraws x = Benches.ofTops(5);
        x.hold(0, 0);
        x.kind(HEIGHTS, 9, 9);
        Due.is("one STATE of heights", x.all(), 1);
    }

    private static void promise21TheGreatestWeightsAreMoreThanAnInt() {
        Due.is("needles of a ring", ring(NEEDLES, 9, 9).all(), 1156831381426176L);
        Due.is("guests of a ring", ring(GUESTS, 9, 9).all(), 90942310746882L);
        LongAgoDraws x = Benches.row(12, 1);
        x.kind(GUESTS, 9, 9);
        Due.is("guests without LINKS", x.all(), 1156831381426176L);
    }

    private static void promise21The5000StatesThatAreSmall() {
        Due.is("heights", of5000States().all(), 5000);
    }

    private static void promise21NoLink() {
        LongAgoDraws x = Benches.row(2, 1);
        x.kind(NEEDLES, 9, 9);
        Due.is("needles", x.all(), 4);
        x.kind(GUESTS, 9, 8);
        Due.is("guests", x.all(), 289);
    }

    // ---- promise 22: chance

    private static void promise22From0To1() {
        LongAgoDraws x = Benches.busy();
        Due.is("upper", x.chance(0), 3);
        Due.is("lower", x.chance(1), 32);
    }

    private static void promise22Below0IsOutside() {
        Edges.refused(Benches::busy, OUTSIDE, LongAgoDraws::chance, -1, -2, LEAST);
    }

    private static void promise22Above1IsOutside() {
        Edges.refused(Benches::busy, OUTSIDE, LongAgoDraws::chance, 2, 3, MOST);
    }

    private static void promise22NoThenFull() {
        noThenFull(x -> x.chance(0));
        noThenFull(x -> x.chance(1));
    }

    private static void promise22TheOnlyStateIs1Of1() {
        LongAgoDraws x = Benches.ofTops(5);
        x.hold(0, 5);
        Due.is("upper", x.chance(0), 1);
        Due.is("lower", x.chance(1), 1);
    }

    private static void promise22InLowestTerms() {
        LongAgoDraws x = Benches.path(2, 1);
        x.kind(NEEDLES, 9, 3);
        // 9 of 24.
        Due.is("upper", x.chance(0), 3);
        Due.is("lower", x.chance(1), 8);
        x.kind(NEEDLES, 9, 9);
        Due.is("upper, all alike", x.chance(0), 1);
        Due.is("lower, all alike", x.chance(1), 4);
    }

    private static void promise22TheGreatestNumbers() {
        LongAgoDraws x = ring(NEEDLES, 9, 1);
        // 9 to the 12, of 10 to the 12 and 8 to the 12: the one is odd, and 3 divides not the other.
        Due.is("upper", x.chance(0), 282429536481L);
        Due.is("lower", x.chance(1), 1068719476736L);
    }

    private static void promise22OfTheStateAtHand() {
        LongAgoDraws x = Benches.busy();
        x.take(1);
        Due.is("LOWEST", x.chance(0) * 100 + x.chance(1), 932);
        x.take(2);
        Due.is("what is DRAWN", x.chance(0) * 100 + x.chance(1), 332);
        x.put(0, 0);
        x.put(1, 1);
        Due.is("what was put", x.chance(0) * 100 + x.chance(1), 132);
    }

    private static void promise22The5000StatesThatAreSmall() {
        LongAgoDraws x = of5000States();
        Due.is("upper", x.chance(0), 1);
        Due.is("lower", x.chance(1), 5000);
    }

    // ---- promise 23: mean

    private static void promise23APlaceThatIsUnknown() {
        Edges.unknown(Benches::busy, (x, p) -> x.mean(p, 0));
        Edges.unknown(Benches::notGood, (x, p) -> x.mean(p, 2));
    }

    private static void promise23Below0IsOutside() {
        Edges.refused(Benches::busy, OUTSIDE, (x, what) -> x.mean(0, what), -1, -2, LEAST);
    }

    private static void promise23Above1IsOutside() {
        Edges.refused(Benches::busy, OUTSIDE, (x, what) -> x.mean(0, what), 2, 3, MOST);
    }

    private static void promise23NoThenFull() {
        fullByTooMany(x -> x.mean(0, 0));
        fullByTooMany(x -> x.mean(0, 1));
        Edges.refused(Benches::largeNotGood, NO, x -> x.mean(0, 0));
        Edges.refused(Benches::notGood, NO, x -> x.mean(0, 1));
        Edges.refused(Benches::heldTooFar, NO, x -> x.mean(0, 1));
    }

    private static void promise23NoneIs0Of1() {
        LongAgoDraws x = Benches.ofTops(5, 5);
        x.hold(0, 0);
        Due.is("upper", x.mean(0, 0), 0);
        Due.is("lower", x.mean(0, 1), 1);
    }

    private static void promise23TheGreatestIs5Of1() {
        LongAgoDraws x = Benches.ofTops(5, 5);
        x.hold(1, 5);
        Due.is("upper", x.mean(1, 0), 5);
        Due.is("lower", x.mean(1, 1), 1);
        Due.is("not HELD, upper", x.mean(0, 0), 5);
        Due.is("not HELD, lower", x.mean(0, 1), 2);
    }

    private static void promise23TheGreatestNumbers() {
        // How many STATES of a ring of 12 have k guests.
        int[] often = {1, 12, 54, 112, 105, 36, 2};
        long part = 0;
        long whole = 0;
        for (int k = 0; k <= 6; k++) {
            long weight = often[k] * power(9, k) * power(8, 12 - k);
            whole += weight;
            part += weight * k / 12;
        }
        LongAgoDraws x = ring(GUESTS, 9, 8);
        for (int p = 0; p < 12; p++) {
            long upper = x.mean(p, 0);
            long lower = x.mean(p, 1);
            Due.is("in lowest terms", divisor(upper, lower), 1);
            Due.is("upper", upper, part / divisor(part, whole));
            Due.is("lower", lower, whole / divisor(part, whole));
        }
        x.kind(NEEDLES, 9, 1);
        Due.is("needles, upper", x.mean(0, 0), 1);
        Due.is("needles, lower", x.mean(0, 1), 2);
    }

    private static long power(long base, int exponent) {
        return exponent == 0 ? 1 : base * power(base, exponent - 1);
    }

    private static long divisor(long a, long b) {
        return b == 0 ? a : divisor(b, a % b);
    }

    private static void promise23NotByTheStateAtHand() {
        LongAgoDraws x = Benches.busy();
        Due.is("with 0 at hand", x.mean(0, 0) * 10 + x.mean(0, 1), 12);
        x.take(0);
        Due.is("with 1 at hand", x.mean(0, 0) * 10 + x.mean(0, 1), 12);
    }

    // ---- promise 24: alike

    private static void promise24TheFirstPlaceThatIsUnknown() {
        Edges.unknown(Benches::busy, (x, p) -> x.alike(p, 0, 0));
        Edges.unknown(Benches::notGood, (x, p) -> x.alike(p, 0, 2));
    }

    private static void promise24TheSecondPlaceThatIsUnknown() {
        Edges.unknown(Benches::busy, (x, p) -> x.alike(0, p, 0));
        Edges.unknown(Benches::notGood, (x, p) -> x.alike(0, p, 2));
    }

    private static void promise24Below0IsOutside() {
        Edges.refused(Benches::busy, OUTSIDE, (x, what) -> x.alike(0, 1, what), -1, -2, LEAST);
    }

    private static void promise24Above1IsOutside() {
        Edges.refused(Benches::busy, OUTSIDE, (x, what) -> x.alike(0, 1, what), 2, 3, MOST);
    }

    private static void promise24NoThenFull() {
        fullByTooMany(x -> x.alike(0, 1, 0));
        fullByTooMany(x -> x.alike(0, 0, 1));
        Edges.refused(Benches::largeNotGood, NO, x -> x.alike(0, 1, 0));
        Edges.refused(Benches::notGood, NO, x -> x.alike(0, 0, 1));
        Edges.refused(Benches::heldTooFar, NO, x -> x.alike(0, 1, 1));
    }

    private static void promise24OnePlaceIs1Of1() {
        for (int kind = 0; kind <= 2; kind++) {
            LongAgoDraws x = Benches.path(2, 5);
            x.kind(kind, 3, 2);
            Due.is("upper, kind " + kind, x.alike(1, 1, 0), 1);
            Due.is("lower, kind " + kind, x.alike(1, 1, 1), 1);
        }
    }

    private static void promise24NeverIs0Of1() {
        LongAgoDraws x = Benches.ofTops(5, 5);
        x.hold(0, 0);
        x.hold(1, 5);
        Due.is("upper", x.alike(0, 1, 0), 0);
        Due.is("lower", x.alike(0, 1, 1), 1);
    }

    private static void promise24AlwaysIs1Of1() {
        LongAgoDraws x = Benches.ofTops(5, 5);
        x.hold(0, 4);
        x.hold(1, 4);
        Due.is("upper", x.alike(0, 1, 0), 1);
        Due.is("lower", x.alike(0, 1, 1), 1);
    }

    private static void promise24TheSameEitherWay() {
        LongAgoDraws x = Benches.busy();
        Due.is("0 and 2, upper", x.alike(0, 2, 0), 5);
        Due.is("2 and 0, upper", x.alike(2, 0, 0), 5);
        Due.is("0 and 2, lower", x.alike(0, 2, 1), 8);
        Due.is("2 and 0, lower", x.alike(2, 0, 1), 8);
    }

    // ---- promise 25: told

    private static void promise25From0To7() {
        LongAgoDraws x = Benches.busy();
        int[] due = {3, 2, NEEDLES, 3, 1, 7, 1, 1};
        for (int what = 0; what <= 7; what++) {
            Due.is("told " + what, x.told(what), due[what]);
        }
    }

    private static void promise25Below0IsTheLeastInt() {
        Edges.refused(Benches::busy, LEAST, LongAgoDraws::told, -1, -2, LEAST);
    }

    private static void promise25Above7IsTheLeastInt() {
        Edges.refused(Benches::busy, LEAST, LongAgoDraws::told, 8, 9, MOST);
    }

    private static void promise25TheSeedOfTheLeastAndTheGreatestInt() {
        LongAgoDraws x = Benches.busy();
        x.seed(LEAST);
        Due.is("the least", x.told(5), LEAST);
        x.seed(MOST);
        Due.is("the greatest", x.told(5), MOST);
        x.seed(OUTSIDE);
        Due.is("one like OUTSIDE", x.told(5), OUTSIDE);
    }

    private static void promise25TheGreatestPlacesAndLinks() {
        LongAgoDraws x = Benches.full(1);
        Due.is("PLACES", x.told(0), 24);
        Due.is("LINKS", x.told(1), 60);
        Due.is("all alike", x.told(7), 60);
        x.take(0);
        Due.is("all alike at 1", x.told(7), 60);
        x.kind(GUESTS, 1, 1);
        Due.is("none alike", x.told(7), 0);
    }

    private static void promise25NoLinkIsAlikeWhereThereIsNone() {
        Due.is("no LINK", Benches.row(5, 1).told(7), 0);
        Due.is("no PLACE", new LongAgoDraws().told(7), 0);
    }

    private static void promise25LikeNumbersAreNotAllowedOnesAlone() {
        LongAgoDraws x = Benches.notGood();
        Due.is("100 at hand", x.told(7), 1);
        Due.is("where none is ALLOWED", Benches.heldTooFar().told(7), 1);
    }

    // ---- promise 26: about

    private static void promise26APlaceThatIsUnknown() {
        Edges.unknown(Benches::busy, (x, p) -> x.about(p, 0));
        Edges.unknown(Benches::busy, (x, p) -> x.about(p, 10));
        Edges.unknown(Benches::busy, (x, p) -> x.about(p, 4));
    }

    private static void promise26From0To3() {
        LongAgoDraws x = Benches.busy();
        Due.is("TOP", x.about(1, 0), 3);
        Due.is("SIDE", x.about(1, 1), 1);
        Due.is("HELD at", x.about(1, 2), 2);
        Due.is("neighbours", x.about(1, 3), 2);
        Due.is("not HELD", x.about(0, 2), -1);
    }

    private static void promise26Below0IsOutside() {
        Edges.refused(Benches::busy, OUTSIDE, (x, what) -> x.about(1, what), -1, -2, LEAST);
    }

    private static void promise26From4To9IsOutside() {
        Edges.refused(Benches::busy, OUTSIDE, (x, what) -> x.about(1, what), 4, 5, 6, 7, 8, 9);
    }

    private static void promise26Above15IsOutside() {
        Edges.refused(Benches::busy, OUTSIDE, (x, what) -> x.about(1, what), 16, 17, MOST);
        Edges.refused(() -> Benches.star(NEEDLES, 1, 1), OUTSIDE, x -> x.about(0, 16));
    }

    private static void promise26From10To15IsNoneWithoutNeighbours() {
        LongAgoDraws x = Benches.row(1, 1);
        for (int what = 10; what <= 15; what++) {
            Due.is("neighbour " + (what - 10), x.about(0, what), NONE);
        }
        Due.is("neighbours", x.about(0, 3), 0);
    }

    private static void promise26NoneFromTheFirstThatThereIsNot() {
        LongAgoDraws x = Benches.busy();
        Due.is("the second of two", x.about(1, 11), 2);
        Due.is("no third", x.about(1, 12), NONE);
        Due.is("the first of one", x.about(0, 10), 1);
        Due.is("no second", x.about(0, 11), NONE);
    }

    private static void promise26SixNeighboursByNumbers() {
        LongAgoDraws x = Benches.row(24, 1);
        int[] order = {23, 0, 11, 22, 1, 13};
        for (int q : order) {
            x.link(q < 12 ? q : 12, q < 12 ? 12 : q);
        }
        int[] due = {0, 1, 11, 13, 22, 23};
        Due.is("neighbours", x.about(12, 3), 6);
        for (int i = 0; i <= 5; i++) {
            Due.is("neighbour " + i, x.about(12, 10 + i), due[i]);
        }
        Due.is("no neighbour 6", x.about(12, 16), OUTSIDE);
    }
}

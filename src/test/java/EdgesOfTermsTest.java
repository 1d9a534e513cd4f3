import java.util.Arrays;
import java.util.function.Supplier;

/** The edges that the Terms name: 0 is the order of the refusals, 1 to 3 are the parts. */
public final class EdgesOfTermsTest {
    private static final int UNKNOWN = -1, OUTSIDE = -2, STATE = -3, FULL = -4, NO = -5;
    private static final int LEAST = Integer.MIN_VALUE, MOST = Integer.MAX_VALUE;
    private static final int NEEDLES = 0, HEIGHTS = 1, GUESTS = 2;

    public static void main(String[] args) throws IllegalAccessException {
        Edges.run(EdgesOfTermsTest.class, "terms", 0, 3);
    }

    // ---- the order of the refusals

    private static void terms0OutsideBeforeFullInPlace() {
        Edges.refused(() -> Benches.full(1), OUTSIDE, x -> x.place(0, 0));
        Edges.refused(() -> Benches.full(1), OUTSIDE, x -> x.place(1, 2));
    }

    private static void terms0UnknownBeforeFullInLink() {
        Edges.refused(() -> Benches.full(1), UNKNOWN, x -> x.link(24, 0));
        Edges.refused(() -> Benches.full(1), UNKNOWN, x -> x.link(5, -1));
    }

    private static void terms0UnknownBeforeNoInLink() {
        Edges.refused(Benches::busy, UNKNOWN, x -> x.link(3, 3));
        Edges.refused(Benches::busy, UNKNOWN, x -> x.link(-1, -1));
    }

    private static void terms0FullBeforeNoInLinkBySixty() {
        Edges.refused(() -> Benches.full(1), FULL, x -> x.link(23, 23));
        Edges.refused(() -> Benches.full(1), FULL, x -> x.link(22, 23));
    }

    private static void terms0FullBeforeNoInLinkBySixNeighbours() {
        Edges.refused(() -> Benches.star(NEEDLES, 1, 1), FULL, x -> x.link(0, 0));
        Edges.refused(() -> Benches.star(NEEDLES, 1, 1), FULL, x -> x.link(0, 1));
        Edges.refused(() -> Benches.star(NEEDLES, 1, 1), FULL, x -> x.link(1, 0));
    }

    private static void terms0UnknownBeforeOutsideInHold() {
        Edges.refused(Benches::busy, UNKNOWN, x -> x.hold(3, -2));
        Edges.refused(Benches::busy, UNKNOWN, x -> x.hold(-1, 6));
    }

    private static void terms0UnknownBeforeNoInHighestAndLowest() {
        Edges.refused(Benches::notGood, UNKNOWN, x -> x.highest(3));
        Edges.refused(Benches::notGood, UNKNOWN, x -> x.lowest(3));
    }

    private static void terms0UnknownBeforeOutsideInPut() {
        Edges.refused(Benches::busy, UNKNOWN, x -> x.put(3, -1));
        Edges.refused(Benches::busy, UNKNOWN, x -> x.put(-1, 6));
    }

    private static void terms0UnknownBeforeNoInPut() {
        Edges.refused(Benches::busy, UNKNOWN, x -> x.put(3, 2));
    }

    private static void terms0OutsideBeforeNoInPut() {
        Edges.refused(Benches::busy, OUTSIDE, x -> x.put(0, 4));
        Edges.refused(Benches::busy, OUTSIDE, x -> x.put(0, -1));
    }

    private static void terms0OutsideBeforeStateInTake() {
        Edges.refused(Benches::fresh, OUTSIDE, x -> x.take(3));
    }

    private static void terms0OutsideBeforeNoInTake() {
        Edges.refused(Benches::notGood, OUTSIDE, x -> x.take(-1));
    }

    private static void terms0StateBeforeNoInTake() {
        Edges.refused(Benches::notGood, STATE, x -> x.take(2));
    }

    private static void terms0OutsideBeforeStateInTick() {
        Edges.refused(LongAgoDraws::new, OUTSIDE, x -> x.tick(0, 2));
        Edges.refused(LongAgoDraws::new, OUTSIDE, x -> x.tick(0, -1));
    }

    private static void terms0OutsideBeforeNoInRun() {
        Edges.refused(Benches::notGood, OUTSIDE, x -> x.run(0, -1));
        Edges.refused(Benches::notGood, OUTSIDE, x -> x.run(0, 20001));
    }

    private static void terms0OutsideBeforeNoInGap() {
        Edges.refused(Benches::notGood, OUTSIDE, x -> x.gap(-1));
        Edges.refused(Benches::notGood, OUTSIDE, x -> x.gap(4097));
    }

    private static void terms0UnknownBeforeStateInDrawn() {
        Edges.refused(Benches::fresh, UNKNOWN, x -> x.drawn(3));
    }

    private static void terms0UnknownBeforeOutsideInTally() {
        Edges.refused(Benches::busy, UNKNOWN, x -> x.tally(3, 0, 0));
        Edges.refused(Benches::busy, UNKNOWN, x -> x.tally(-1, 0, 9));
    }

    private static void terms0UnknownBeforeNoInTally() {
        Edges.refused(Benches::notGood, UNKNOWN, x -> x.tally(3, 0, 1));
    }

    private static void terms0OutsideBeforeNoInTally() {
        Edges.refused(Benches::notGood, OUTSIDE, x -> x.tally(0, 0, 0));
        Edges.refused(Benches::notGood, OUTSIDE, x -> x.tally(0, 0, 9));
    }

    private static void terms0OutsideBeforeNoInPartFour() {
        Edges.refused(Benches::notGood, OUTSIDE, x -> x.chance(2));
        Edges.refused(Benches::notGood, OUTSIDE, x -> x.mean(0, 2));
        Edges.refused(Benches::notGood, OUTSIDE, x -> x.alike(0, 1, 2));
    }

    private static void terms0OutsideBeforeFullInPartFour() {
        Edges.refused(Benches::large, OUTSIDE, x -> x.chance(-1));
        Edges.refused(Benches::large, OUTSIDE, x -> x.mean(0, -1));
        Edges.refused(Benches::large, OUTSIDE, x -> x.alike(0, 1, -1));
    }

    private static void terms0UnknownBeforeOutsideInPartFour() {
        Edges.refused(Benches::busy, UNKNOWN, x -> x.mean(3, 2));
        Edges.refused(Benches::busy, UNKNOWN, x -> x.alike(3, 0, 2));
        Edges.refused(Benches::busy, UNKNOWN, x -> x.alike(0, 3, -1));
        Edges.refused(Benches::busy, UNKNOWN, x -> x.about(3, 4));
    }

    private static void terms0UnknownBeforeNoInPartFour() {
        Edges.refused(Benches::notGood, UNKNOWN, x -> x.mean(3, 0));
        Edges.refused(Benches::notGood, UNKNOWN, x -> x.alike(3, 0, 0));
        Edges.refused(Benches::notGood, UNKNOWN, x -> x.alike(0, -1, 0));
    }

    private static void terms0UnknownBeforeFullInPartFour() {
        Edges.refused(Benches::large, UNKNOWN, x -> x.mean(13, 0));
        Edges.refused(Benches::large, UNKNOWN, x -> x.alike(13, 0, 0));
        Edges.refused(Benches::large, UNKNOWN, x -> x.alike(0, 13, 0));
    }

    private static void terms0NoBeforeFullByTooManyStates() {
        noBeforeFull(Benches::largeNotGood);
    }

    private static void terms0NoBeforeFullByTooManyLinks() {
        noBeforeFull(() -> {
            LongAgoDraws x = linked(13);
            x.kind(NEEDLES, 1, 2);
            return x;
        });
    }

    private static void noBeforeFull(Supplier<LongAgoDraws> bench) {
        Edges.refused(bench, NO, LongAgoDraws::many);
        Edges.refused(bench, NO, LongAgoDraws::all);
        Edges.refused(bench, NO, x -> x.chance(0));
        Edges.refused(bench, NO, x -> x.mean(0, 0));
        Edges.refused(bench, NO, x -> x.alike(0, 1, 0));
    }

    private static void terms0IntsWrapInSeeds() {
        int[] seeds = {LEAST, LEAST + 1, -1, 0, 1, 2, MOST - 1, MOST};
        LongAgoDraws x = Benches.row(24, 1);
        for (int seed : seeds) {
            x.seed(seed);
            Due.is("lot of the seed " + seed, x.tick(1, 1), Lots.lot(seed, 1));
            Due.is("place of the seed " + seed, x.tick(1, 0), Lots.place(seed, 1, 24));
        }
    }

    private static void terms0IntsWrapInNumbersOfTicks() {
        int[] ticks = {LEAST, LEAST + 1, -1, 0, 1, 173961, 173962, MOST - 1, MOST};
        LongAgoDraws x = Benches.row(24, 1);
        x.seed(-5);
        for (int t : ticks) {
            Due.is("lot of the tick " + t, x.tick(t, 1), Lots.lot(-5, t));
            Due.is("place of the tick " + t, x.tick(t, 0), Lots.place(-5, t, 24));
        }
    }

    // ---- part 1

    private static void terms1PlacesAreNumberedFrom0To23() {
        LongAgoDraws x = new LongAgoDraws();
        for (int p = 0; p < 24; p++) {
            Due.is("its number", x.place(1, 0), p);
        }
        Due.is("no 25th", x.place(1, 0), FULL);
        Due.is("there are 24", x.told(0), 24);
    }

    private static void terms1LinksAreSixtyAtMost() {
        LongAgoDraws x = Benches.full(1);
        Due.is("there are 60", x.told(1), 60);
        Due.is("no 61st, though both have 4 neighbours", x.link(17, 19), FULL);
        Due.is("neighbours of the one", x.about(17, 3), 4);
        Due.is("neighbours of the other", x.about(19, 3), 4);
    }

    private static void terms1NeighboursAreSixAtMost() {
        LongAgoDraws x = Benches.star(NEEDLES, 1, 1);
        x.place(1, 0);
        Due.is("six", x.about(0, 3), 6);
        Due.is("no seventh", x.link(0, 7), FULL);
        Due.is("the others may have more", x.link(6, 7), 7);
    }

    private static void terms1NumbersGoFrom0ToTop() {
        for (int top = 1; top <= 5; top++) {
            LongAgoDraws x = Benches.ofTops(top);
            Due.is("to its TOP " + top, x.put(0, top), 0);
            Due.is("from 0, TOP " + top, x.put(0, 0), top);
            Due.is("how many, TOP " + top, x.many(), top + 1);
            Due.is("HIGHEST, TOP " + top, x.highest(0), top);
            Due.is("LOWEST, TOP " + top, x.lowest(0), 0);
        }
    }

    private static void terms1WeightsOfKindsGoFrom1To9() {
        LongAgoDraws x = Benches.path(2, 1);
        x.kind(NEEDLES, 9, 1);
        Due.is("9 and 1", x.all(), 20);
        x.kind(NEEDLES, 9, 9);
        Due.is("9 and 9", x.all(), 36);
        x.kind(GUESTS, 1, 9);
        Due.is("guests, 1 and 9", x.all(), 99);
    }

    private static void terms1InNeedlesOnly0And1Count() {
        LongAgoDraws x = Benches.path(2, 5);
        Due.is("many", x.many(), 4);
        Due.is("1 is put", x.put(0, 1), 0);
        Due.is("2 is not", x.put(0, 2), NO);
        Due.is("5 is not", x.put(0, 5), NO);
        Due.is("HIGHEST", x.highest(0), 1);
    }

    private static void terms1InGuestsOnly0And1Count() {
        LongAgoDraws x = Benches.row(2, 5);
        x.kind(GUESTS, 1, 1);
        Due.is("many", x.many(), 4);
        Due.is("1 is put", x.put(0, 1), 0);
        Due.is("2 is not", x.put(0, 2), NO);
        Due.is("5 is not", x.put(0, 5), NO);
        Due.is("HIGHEST", x.highest(0), 1);
    }

    private static void terms1NeedlesWithoutLinksWeigh1() {
        LongAgoDraws x = Benches.row(3, 1);
        x.kind(NEEDLES, 9, 5);
        Due.is("all", x.all(), 8);
        Due.is("upper", x.chance(0), 1);
        Due.is("lower", x.chance(1), 8);
    }

    private static void terms1NeedlesWeighUForAlikeVForOthers() {
        LongAgoDraws x = Benches.path(2, 1);
        x.kind(NEEDLES, 5, 3);
        Due.is("alike, of 16", x.chance(0) * 100 + x.chance(1), 516);
        x.put(0, 1);
        Due.is("unlike, of 16", x.chance(0) * 100 + x.chance(1), 316);
        x.put(1, 1);
        Due.is("alike at 1, of 16", x.chance(0) * 100 + x.chance(1), 516);
    }

    private static void terms1HeightsMayDifferBy1NotBy2() {
        LongAgoDraws x = Benches.path(2, 5);
        x.kind(HEIGHTS, 1, 1);
        Due.is("by 1 above", x.put(0, 1), 0);
        Due.is("by 2 above", x.put(0, 2), NO);
        Due.is("none", x.put(1, 1), 0);
        Due.is("by 1 below", x.put(0, 0), 1);
        Due.is("by 2 below", x.put(1, 2), NO);
        Due.is("how many", x.many(), 16);
    }

    private static void terms1HeldHeightsHaveThatNumberAlone() {
        LongAgoDraws x = Benches.ofTops(5);
        for (int held = 0; held <= 5; held++) {
            x.hold(0, held);
            Due.is("how many", x.many(), 1);
            Due.is("one more", x.put(0, held + 1), held == 5 ? OUTSIDE : NO);
            Due.is("one less", x.put(0, held - 1), held == 0 ? OUTSIDE : NO);
            Due.is("itself", x.put(0, held), held);
        }
    }

    private static void terms1HeightsWeigh1WhateverUAndV() {
        LongAgoDraws x = Benches.path(2, 5);
        x.kind(HEIGHTS, 9, 7);
        Due.is("all", x.all(), 16);
        Due.is("many", x.many(), 16);
    }

    private static void terms1GuestsNeverHave1AtBothEnds() {
        LongAgoDraws x = Benches.path(2, 1);
        x.kind(GUESTS, 1, 1);
        Due.is("LOWEST is 01", Edges.atHand(x), 1);
        Due.is("11", x.put(0, 1), NO);
        Due.is("00", x.put(1, 0), 1);
        Due.is("10", x.put(0, 1), 0);
        Due.is("11 the other way", x.put(1, 1), NO);
        Due.is("many", x.many(), 3);
    }

    private static void terms1GuestsWeighUFor1VFor0() {
        LongAgoDraws x = Benches.path(2, 1);
        x.kind(GUESTS, 5, 2);
        Due.is("00, 01 and 10", x.all(), 24);
        Due.is("01", x.chance(0) * 100 + x.chance(1), 512);
        x.put(1, 0);
        Due.is("00", x.chance(0) * 100 + x.chance(1), 106);
    }

    private static void terms1NeedlesAreGoodFromUIsVOn() {
        LongAgoDraws x = Benches.row(1, 1);
        for (int v = 1; v <= 9; v++) {
            x.kind(NEEDLES, v, v);
            Due.is("u is v, " + v, x.good(), 1);
            if (v > 1) {
                x.kind(NEEDLES, v - 1, v);
                Due.is("u is one below v, " + v, x.good(), 0);
                x.kind(NEEDLES, v, v - 1);
                Due.is("u is one above v, " + v, x.good(), 1);
            }
        }
    }

    private static void terms1HeightsAreGoodAsFarAsLinksReach() {
        for (int links = 1; links <= 4; links++) {
            LongAgoDraws x = Benches.path(links + 1, 5);
            x.kind(HEIGHTS, 1, 1);
            x.hold(0, 0);
            x.hold(links, links);
            Due.is("just as far, " + links, x.good(), 1);
            Due.is("one STATE, " + links, x.gap(0), 0);
            x.hold(links, links + 1);
            Due.is("one too far, " + links, x.good(), 0);
            x.hold(links, 0);
            x.hold(0, links + 1);
            Due.is("one too far the other way, " + links, x.good(), 0);
        }
    }

    private static void terms1HeightsAreGoodByTheLowestTop() {
        LongAgoDraws x = Benches.ofTops(5, 1);
        x.link(0, 1);
        x.hold(0, 2);
        Due.is("one above the TOP beside it", x.good(), 1);
        x.hold(0, 3);
        Due.is("two above the TOP beside it", x.good(), 0);
    }

    private static void terms1HeightsAreNotGoodByOneLinkOfSixty() {
        LongAgoDraws x = Benches.full(5);
        x.kind(HEIGHTS, 1, 1);
        x.hold(0, 2);
        x.hold(5, 3);
        Due.is("neighbours by 1", x.good(), 1);
        x.hold(5, 4);
        Due.is("neighbours by 2", x.good(), 0);
    }

    private static void terms1GuestsAreGoodWithoutLinks() {
        LongAgoDraws x = new LongAgoDraws();
        x.place(1, 0);
        x.place(1, 0);
        x.kind(GUESTS, 1, 9);
        Due.is("all of SIDE 0", x.good(), 1);
        x = new LongAgoDraws();
        x.place(1, 1);
        x.place(1, 1);
        x.kind(GUESTS, 1, 9);
        Due.is("all of SIDE 1", x.good(), 1);
    }

    private static void terms1GuestsAreNotGoodByOneLinkOfOneSide() {
        for (int side = 0; side <= 1; side++) {
            LongAgoDraws x = Benches.path(4, 1);
            x.kind(GUESTS, 1, 1);
            Due.is("each of two", x.good(), 1);
            x.link(side, side + 2);
            Due.is("one of SIDE " + side, x.good(), 0);
        }
    }

    private static void terms1GuestsOfSixtyLinksAreGood() {
        LongAgoDraws x = Benches.full(1);
        x.kind(GUESTS, 1, 1);
        Due.is("60 of two SIDES", x.good(), 1);
    }

    private static void terms1NoPlaceIsNotGood() {
        for (int kind = 0; kind <= 2; kind++) {
            LongAgoDraws x = new LongAgoDraws();
            x.kind(kind, 9, 1);
            Due.is("no PLACE, kind " + kind, x.good(), 0);
            x.place(1, 0);
            Due.is("one PLACE, kind " + kind, x.good(), 1);
        }
    }

    private static void terms1HeldCountsForHeightsAlone() {
        LongAgoDraws x = Benches.path(2, 5);
        x.hold(0, 0);
        x.hold(1, 5);
        Due.is("needles are GOOD", x.good(), 1);
        Due.is("needles: HIGHEST", x.highest(0), 1);
        Due.is("needles: put", x.put(0, 1), 0);
        x.kind(GUESTS, 1, 1);
        Due.is("guests are GOOD", x.good(), 1);
        Due.is("guests: HIGHEST", x.highest(0), 1);
        Due.is("guests: put", x.put(1, 0), 1);
        x.kind(HEIGHTS, 1, 1);
        Due.is("heights are not", x.good(), 0);
    }

    private static void terms1SidesCountForGuestsAlone() {
        LongAgoDraws x = new LongAgoDraws();
        x.place(1, 1);
        x.place(1, 1);
        x.link(0, 1);
        Due.is("needles are GOOD", x.good(), 1);
        Due.is("needles: HIGHEST", x.highest(0) * 10 + x.highest(1), 11);
        Due.is("needles: LOWEST", x.lowest(0) * 10 + x.lowest(1), 0);
        x.kind(HEIGHTS, 1, 1);
        Due.is("heights are GOOD", x.good(), 1);
        Due.is("heights: HIGHEST", x.highest(0) * 10 + x.highest(1), 11);
        Due.is("heights: LOWEST", x.lowest(0) * 10 + x.lowest(1), 0);
        x.kind(GUESTS, 1, 1);
        Due.is("guests are not", x.good(), 0);
    }

    private static void terms1HeightOfSide1InGuestsIs1Less() {
        LongAgoDraws x = Benches.path(2, 1);
        x.kind(GUESTS, 1, 1);
        Due.is("HIGHEST", x.highest(0) * 10 + x.highest(1), 10);
        Due.is("LOWEST", x.lowest(0) * 10 + x.lowest(1), 1);
    }

    private static void terms1HighestIsLowestWhereOneStateIsAllowed() {
        LongAgoDraws x = Benches.path(3, 5);
        x.kind(HEIGHTS, 1, 1);
        x.hold(0, 1);
        x.hold(2, 3);
        Due.is("many", x.many(), 1);
        Due.is("HIGHEST", x.highest(1), 2);
        Due.is("LOWEST", x.lowest(1), 2);
    }

    private static void terms1DrawnIsGoneByAPlace() {
        goneBy(x -> x.place(1, 0), 3);
    }

    private static void terms1DrawnIsGoneByALink() {
        goneBy(x -> x.link(0, 2), 3);
    }

    private static void terms1DrawnIsGoneByAKindThatIsThereAlready() {
        goneBy(x -> x.kind(NEEDLES, 3, 1), 1);
    }

    private static void terms1DrawnIsGoneByAHoldThatIsThereAlready() {
        goneBy(x -> x.hold(1, 2), 2);
        goneBy(x -> x.hold(0, -1), -1);
    }

    private static void goneBy(Edges.Call call, long answer) {
        LongAgoDraws x = Benches.busy();
        Due.is("DRAWN before", Edges.drawn(x), 100);
        Due.is("at hand before", Edges.atHand(x), 11);
        Due.is("it goes", call.of(x), answer);
        Due.is("nothing is DRAWN", x.told(6), 0);
        Due.is("drawn is STATE", x.drawn(0), STATE);
        Due.is("met is 1", x.met(), 1);
        Due.is("LOWEST is at hand", Edges.atHand(x), 0);
        Due.is("the SEED stays", x.told(5), 7);
    }

    private static void terms1DrawnStaysByWhatAsksOnly() {
        LongAgoDraws x = Benches.busy();
        x.good();
        x.highest(0);
        x.lowest(0);
        Due.is("DRAWN", Edges.drawn(x), 100);
        Due.is("at hand", Edges.atHand(x), 11);
    }

    private static void terms1AtHandIsLowestOfGuests() {
        LongAgoDraws x = Benches.path(3, 1);
        x.kind(GUESTS, 1, 1);
        Due.is("at hand", Edges.atHand(x), 10);
        x.take(0);
        x.place(1, 1);
        Due.is("at hand, one more of SIDE 1", Edges.atHand(x), 101);
    }

    private static void terms1AtHandIsLowestOfHeights() {
        LongAgoDraws x = Benches.path(3, 5);
        x.kind(HEIGHTS, 1, 1);
        x.take(0);
        x.hold(0, 4);
        Due.is("at hand", Edges.atHand(x), 432);
    }

    private static void terms1AtHandIsAll0WhereNotGood() {
        LongAgoDraws x = Benches.path(3, 5);
        x.kind(GUESTS, 1, 1);
        x.link(0, 2);
        Due.is("guests", Edges.atHand(x), 0);
        x.kind(HEIGHTS, 1, 1);
        x.hold(0, 5);
        x.hold(1, 3);
        Due.is("heights", Edges.atHand(x), 0);
        x.kind(NEEDLES, 1, 1);
        x.take(0);
        x.kind(NEEDLES, 1, 2);
        Due.is("needles", Edges.atHand(x), 0);
    }

    // ---- part 2

    private static void terms2TicksOfTheLeastAndTheGreatestInt() {
        LongAgoDraws x = Benches.row(7, 1);
        int[] seeds = {LEAST, 0, MOST};
        for (int seed : seeds) {
            x.seed(seed);
            int[] ticks = {LEAST, MOST};
            for (int t : ticks) {
                Due.is("place", x.tick(t, 0), Lots.place(seed, t, 7));
                Due.is("lot", x.tick(t, 1), Lots.lot(seed, t));
            }
        }
    }

    private static void terms2ShiftsAreWithoutSign() {
        LongAgoDraws x = Benches.row(24, 1);
        int[] tried = new int[2];
        for (int t = 0; t < 100; t++) {
            tried[Lots.mixed(0, t) >= 1L << 31 ? 1 : 0]++;
            Due.is("place of " + t, x.tick(t, 0), Lots.place(0, t, 24));
            Due.is("lot of " + t, x.tick(t, 1), Lots.lot(0, t));
        }
        Due.isTrue("numbers with the highest bit and without", tried[0] > 20 && tried[1] > 20);
    }

    private static void terms2TheLeastAndTheGreatestLot() {
        LongAgoDraws x = Benches.row(1, 1);
        x.seed(Lots.seedFor(5, 1, 0, 0, 0));
        Due.is("0", x.tick(5, 1), 0);
        x.seed(Lots.seedFor(5, 1, 0, 65535, 65535));
        Due.is("65535", x.tick(5, 1), 65535);
    }

    private static void terms2TheFirstAndTheLastPlaceOf24() {
        LongAgoDraws x = Benches.row(24, 1);
        x.seed(Lots.seedFor(5, 24, 0, 0, 65535));
        Due.is("0", x.tick(5, 0), 0);
        x.seed(Lots.seedFor(5, 24, 23, 0, 65535));
        Due.is("23", x.tick(5, 0), 23);
    }

    /** Sets the SEED so that TICK 0 is of PLACE 0 with this LOT, and runs it. */
    private static void lotGives(LongAgoDraws x, int lot, int due) {
        x.seed(Lots.seedFor(0, x.told(0), 0, lot, lot));
        int before = x.at(0);
        Due.is("changed by lot " + lot, x.run(0, 1), before == due ? 0 : 1);
        Due.is("by lot " + lot, x.at(0), due);
    }

    private static void terms2LotTimesWeightsThatIsJustNotBelow() {
        LongAgoDraws x = Benches.row(1, 1);
        // 2 times 32768 is 65536: not below it.
        lotGives(x, 32767, 0);
        lotGives(x, 32768, 1);
        x = Benches.ofTops(3);
        // 4 times 16384 is 65536, and so on for each quarter.
        lotGives(x, 16383, 0);
        lotGives(x, 16384, 1);
        lotGives(x, 32767, 1);
        lotGives(x, 32768, 2);
        lotGives(x, 49151, 2);
        lotGives(x, 49152, 3);
    }

    private static void terms2TheLeastLotGivesTheLeastHeight() {
        lotGives(Benches.ofTops(5), 0, 0);
        LongAgoDraws x = new LongAgoDraws();
        x.place(1, 1);
        x.kind(GUESTS, 1, 9);
        x.put(0, 0);
        lotGives(x, 0, 1);
    }

    private static void terms2TheGreatestLotGivesTheGreatestHeight() {
        lotGives(Benches.ofTops(5), 65535, 5);
        LongAgoDraws x = new LongAgoDraws();
        x.place(1, 1);
        x.kind(GUESTS, 9, 1);
        lotGives(x, 65535, 0);
    }

    private static void terms2TheGreatestWeightsOfSixNeighbours() {
        LongAgoDraws x = Benches.star(NEEDLES, 9, 1);
        // All neighbours at 0: 0 weighs 531441, 1 weighs 1.
        lotGives(x, 65535, 0);
        x.take(0);
        // All neighbours at 1: the other way round.
        lotGives(x, 0, 0);
        lotGives(x, 1, 1);
        lotGives(x, 65535, 1);
    }

    private static void terms2NeedlesWeighEachNeighbour() {
        LongAgoDraws x = Benches.star(NEEDLES, 3, 1);
        for (int p = 1; p <= 3; p++) {
            x.put(p, 1);
        }
        // Three alike either way.
        lotGives(x, 32767, 0);
        lotGives(x, 32768, 1);
        x.put(4, 1);
        // 0 weighs 9, 1 weighs 81: of 10 the first.
        lotGives(x, 6553, 0);
        lotGives(x, 6554, 1);
    }

    private static void terms2ATickKeepsToAllowedStates() {
        LongAgoDraws x = Benches.star(GUESTS, 9, 1);
        // All neighbours are guests.
        lotGives(x, 65535, 0);
        x = Benches.star(HEIGHTS, 1, 1);
        // All neighbours are at 0: 0 or 1.
        lotGives(x, 32768, 1);
        lotGives(x, 65535, 1);
        x.put(1, 2);
        // One is at 2: 1 alone.
        lotGives(x, 0, 1);
        lotGives(x, 65535, 1);
    }

    private static void terms2NoTickChangesAHeldHeight() {
        LongAgoDraws x = Benches.ofTops(5, 5);
        x.hold(0, 3);
        lotGives(x, 0, 3);
        lotGives(x, 65535, 3);
    }

    private static void terms2ATickChangesAHeldNeedleAndGuest() {
        LongAgoDraws x = Benches.row(1, 5);
        x.hold(0, 0);
        lotGives(x, 65535, 1);
        x.kind(GUESTS, 1, 1);
        lotGives(x, 65535, 1);
    }

    private static void terms2ToRunTakesTheFirstTickAndNotTheLast() {
        LongAgoDraws x = Benches.row(1, 1);
        // TICK 0 gives 1, TICK 1 gives 0.
        int seed = 0;
        while (Lots.lot(seed, 0) < 32768 || Lots.lot(seed, 1) >= 32768) {
            seed++;
        }
        x.seed(seed);
        Due.is("no TICK", x.run(0, 0), 0);
        Due.is("TICK 0 alone", x.run(0, 1), 1);
        Due.is("it gives 1", x.at(0), 1);
        Due.is("TICK 1 alone", x.run(1, 2), 1);
        Due.is("it gives 0", x.at(0), 0);
        Due.is("both", x.run(0, 2), 2);
    }

    private static void terms2TheLeastBIsThatOfTheDraw() {
        for (int seed = 0; seed < 40; seed++) {
            LongAgoDraws x = Benches.cluster(3, 1);
            x.seed(seed);
            int back = x.draw();
            Due.is("a power of two", Integer.bitCount(back), 1);
            Due.is("they are one", x.gap(back), 0);
            for (int b = 1; b < back; b *= 2) {
                Due.isTrue("not so by " + b, x.gap(b) > 0);
            }
        }
    }

    private static void terms2TheDrawGoesBackBy1AtLeast() {
        LongAgoDraws x = Benches.ofTops(5);
        x.hold(0, 2);
        Due.is("HIGHEST is LOWEST", x.draw(), 1);
        Due.is("they met ahead of all TICKS", x.met(), 0);
    }

    private static void terms2TheDrawGoesBackBy4096AtMost() {
        LongAgoDraws x = Benches.cluster(7, 1);
        x.seed(1);
        Due.isTrue("unlike by 2048", x.gap(2048) > 0);
        Due.is("one by 4096", x.gap(4096), 0);
        Due.is("the DRAW", x.draw(), 4096);
        x.seed(18);
        Due.isTrue("unlike by 4096", x.gap(4096) > 0);
        Due.is("no DRAW", x.draw(), NO);
    }

    private static void terms2TheyMetAtTheFirstTick() {
        for (int seed = 0; seed < 40; seed++) {
            LongAgoDraws x = Benches.path(3, 1);
            x.kind(NEEDLES, 3, 1);
            x.seed(seed);
            int back = x.draw();
            int met = x.met();
            Due.isTrue("one behind it", areOne(x, -back, met + 1));
            Due.isTrue("not one ahead of it", !areOne(x, -back, met));
        }
    }

    private static boolean areOne(LongAgoDraws x, int t, int e) {
        x.take(0);
        x.run(t, e);
        long high = Edges.atHand(x);
        x.take(1);
        x.run(t, e);
        return high == Edges.atHand(x);
    }

    // ---- part 3

    private static void terms3SmallIsOf5000StatesAtMost() {
        LongAgoDraws x = Benches.ofTops(4, 4, 4, 4, 1, 1, 1);
        Due.is("many of 5000", x.many(), 5000);
        Due.is("all of 5000", x.all(), 5000);
        Due.is("the lower number of 5000", x.chance(1), 5000);
        Due.is("the mean by 5000", x.mean(0, 0) * 10 + x.mean(0, 1), 21);
        Due.is("alike by 5000", x.alike(0, 1, 0) * 10 + x.alike(0, 1, 1), 15);
    }

    private static void terms3MoreThan5000StatesAreFull() {
        // 5120 is the least product of 2 to 6 above 5000.
        fullInPartFour(() -> Benches.ofTops(4, 3, 3, 3, 3, 3));
    }

    private static void terms3StatesThatWrapAnIntAreFull() {
        // 4 to the 16 is 2 to the 32, which leaves 0 of an int.
        int[] tops = new int[16];
        Arrays.fill(tops, 3);
        fullInPartFour(() -> Benches.ofTops(tops));
    }

    private static void terms3TheGreatestNumberOfStatesIsFull() {
        int[] tops = new int[24];
        Arrays.fill(tops, 5);
        fullInPartFour(() -> Benches.ofTops(tops));
    }

    private static void terms3NeedlesOf12PlacesAreSmallOf13Not() {
        LongAgoDraws x = Benches.row(12, 5);
        Due.is("12", x.many(), 4096);
        fullInPartFour(() -> Benches.row(13, 1));
        fullInPartFour(() -> Benches.row(24, 1));
    }

    private static void terms3GuestsOf12PlacesAreSmallOf13Not() {
        LongAgoDraws x = Benches.row(12, 5);
        x.kind(GUESTS, 1, 1);
        Due.is("12", x.many(), 4096);
        fullInPartFour(() -> {
            LongAgoDraws y = Benches.row(13, 1);
            y.kind(GUESTS, 1, 1);
            return y;
        });
    }

    private static void terms3StatesThatAreNotAllowedCountToo() {
        fullInPartFour(() -> {
            LongAgoDraws x = Benches.ofTops(4, 3, 3, 3, 3, 3);
            for (int p = 0; p < 6; p++) {
                x.hold(p, 0);
            }
            return x;
        });
    }

    private static LongAgoDraws linked(int links) {
        LongAgoDraws x = Benches.row(8, 1);
        int made = 0;
        for (int step = 1; step <= 3; step += 2) {
            for (int p = 0; p < 8 && made < links; p++) {
                made++;
                x.link(p, (p + step) % 8);
            }
        }
        return x;
    }

    private static void terms3SmallIsOf12LinksAtMost() {
        for (int kind = 0; kind <= 2; kind++) {
            LongAgoDraws x = linked(12);
            x.kind(kind, 1, 1);
            Due.is("there are 12", x.told(1), 12);
            Due.isTrue("many of 12, kind " + kind, x.many() > 0);
            Due.isTrue("all of 12, kind " + kind, x.all() > 0);
            Due.isTrue("chance of 12, kind " + kind, x.chance(1) > 0);
            Due.isTrue("mean of 12, kind " + kind, x.mean(0, 1) > 0);
            Due.isTrue("alike of 12, kind " + kind, x.alike(0, 1, 1) > 0);
        }
    }

    private static void terms3ThirteenLinksAreFull() {
        for (int kind = 0; kind <= 2; kind++) {
            int one = kind;
            fullInPartFour(() -> {
                LongAgoDraws x = linked(13);
                x.kind(one, 1, 1);
                return x;
            });
        }
    }

    private static void fullInPartFour(Supplier<LongAgoDraws> bench) {
        Due.is("it is GOOD", bench.get().good(), 1);
        Edges.refused(bench, FULL, LongAgoDraws::many);
        Edges.refused(bench, FULL, LongAgoDraws::all);
        Edges.refused(bench, FULL, x -> x.chance(0));
        Edges.refused(bench, FULL, x -> x.chance(1));
        Edges.refused(bench, FULL, x -> x.mean(0, 0));
        Edges.refused(bench, FULL, x -> x.alike(0, 1, 1));
    }
}

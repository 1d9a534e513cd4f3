/** Promises 20 to 26: small systems, and what can be told of any. */
public final class SmallTest {
    private static final int NONE = -6, UNKNOWN = -1, OUTSIDE = -2, FULL = -4, NO = -5;
    private static final int LEAST = Integer.MIN_VALUE, MOST = Integer.MAX_VALUE;

    public static void main(String[] args) {
        manyAndAll();
        manyOfHeights();
        limitsOfStates();
        limitsOfLinks();
        theLargestWeights();
        chance();
        mean();
        alike();
        refusals();
        told();
        about();
        Due.end("SmallTest");
    }

    private static void manyAndAll() {
        LongAgoDraws x = Benches.path(3, 4);
        x.kind(Benches.NEEDLES, 3, 2);
        Due.is("20 needles", x.many(), 8);
        Due.is("21 needles", x.all(), 50);
        x.kind(Benches.GUESTS, 3, 2);
        Due.is("20 guests", x.many(), 5);
        // 000 is 8, one guest 12 (thrice), 101 is 18.
        Due.is("21 guests", x.all(), 62);
        x.kind(Benches.NEEDLES, 1, 1);
        Due.is("21 weights of 1", x.all(), 8);
        x = Benches.row(1, 1);
        x.kind(Benches.NEEDLES, 9, 9);
        Due.is("20 no link", x.many(), 2);
        Due.is("21 no link", x.all(), 2);
        x.kind(Benches.GUESTS, 9, 4);
        Due.is("21 one guest", x.all(), 13);
    }

    private static void manyOfHeights() {
        LongAgoDraws x = Benches.path(3, 2);
        x.kind(Benches.HEIGHTS, 9, 9);
        // By the middle: 2 * 2 at 0, 3 * 3 at 1, 2 * 2 at 2.
        Due.is("20 heights", x.many(), 17);
        Due.is("21 heights", x.all(), 17);
        x.hold(1, 2);
        Due.is("20 held", x.many(), 4);
        x.hold(0, 1);
        Due.is("20 two held", x.many(), 2);
        x.hold(0, 0);
        Due.is("20 held too far", x.many(), NO);
        Due.is("21 held too far", x.all(), NO);
    }

    private static LongAgoDraws ofTops(int... tops) {
        LongAgoDraws x = new LongAgoDraws();
        for (int top : tops) {
            x.place(top, 0);
        }
        x.kind(Benches.HEIGHTS, 1, 1);
        return x;
    }

    private static void limitsOfStates() {
        Due.is("20 5000 states", ofTops(4, 4, 4, 4, 1, 1, 1).many(), 5000);
        Due.is("21 5000 states", ofTops(4, 4, 4, 4, 1, 1, 1).all(), 5000);
        // No product of 2 to 6 lies between.
        Due.is("20 5120 states", ofTops(4, 3, 3, 3, 3, 3).many(), FULL);
        Due.is("20 4374 states", ofTops(5, 2, 2, 2, 2, 2, 2).many(), 4374);
        LongAgoDraws x = ofTops(5, 5, 5, 5, 3);
        x.hold(0, 0);
        x.hold(1, 0);
        Due.is("20 held ones count still", x.many(), FULL);
        x.kind(Benches.NEEDLES, 1, 1);
        Due.is("20 the tops count not for needles", x.many(), 32);
        x = Benches.row(12, 5);
        Due.is("20 12 places", x.many(), 4096);
        x.kind(Benches.HEIGHTS, 1, 1);
        Due.is("20 12 places of heights", x.many(), FULL);
        x.kind(Benches.GUESTS, 1, 1);
        Due.is("20 12 guests", x.many(), 4096);
        x.place(1, 0);
        Due.is("20 13 guests", x.many(), FULL);
        x.kind(Benches.NEEDLES, 1, 1);
        Due.is("20 13 needles", x.many(), FULL);
        x = Benches.row(24, 5);
        x.kind(Benches.HEIGHTS, 1, 1);
        Due.is("20 6 to the 24", x.many(), FULL);
    }

    private static void limitsOfLinks() {
        LongAgoDraws x = Benches.row(6, 1);
        int links = 0;
        for (int p = 0; p < 6; p++) {
            for (int q = 0; q < p && links < 12; q++) {
                links = x.link(p, q);
            }
        }
        Due.is("20 12 links", x.many(), 64);
        Due.is("20 there are 12", x.told(1), 12);
        x.link(5, 4);
        Due.is("20 13 links", x.many(), FULL);
        Due.is("21 13 links", x.all(), FULL);
        Due.is("22 13 links", x.chance(0), FULL);
        Due.is("23 13 links", x.mean(0, 1), FULL);
        Due.is("24 13 links", x.alike(0, 1, 1), FULL);
        x.kind(Benches.NEEDLES, 1, 2);
        Due.is("20 no before full", x.many(), NO);
        Due.is("21 no before full", x.all(), NO);
        Due.is("22 no before full", x.chance(0), NO);
        Due.is("23 no before full", x.mean(0, 0), NO);
        Due.is("24 no before full", x.alike(0, 0, 0), NO);
    }

    private static void theLargestWeights() {
        LongAgoDraws x = Benches.path(12, 1);
        x.link(11, 0);
        x.kind(Benches.NEEDLES, 9, 9);
        Due.is("21 9 to the 12, 4096 times", x.all(), 4096L * 282429536481L);
        Due.is("22 one of 4096", x.chance(0), 1);
        Due.is("22 of 4096", x.chance(1), 4096);
        x.kind(Benches.NEEDLES, 9, 1);
        // A ring: 10 to the 12 and 8 to the 12.
        Due.is("21 a ring", x.all(), 1000000000000L + 68719476736L);
        x.kind(Benches.GUESTS, 9, 9);
        Due.is("20 a ring of guests", x.many(), 322);
        Due.is("21 a ring of guests", x.all(), 322L * 282429536481L);
    }

    private static void chance() {
        LongAgoDraws x = Benches.path(3, 1);
        x.kind(Benches.NEEDLES, 3, 1);
        Due.is("22 upper", x.chance(0), 9);
        Due.is("22 lower", x.chance(1), 32);
        x.put(1, 1);
        Due.is("22 of the state at hand", x.chance(0), 1);
        x.put(2, 1);
        Due.is("22 of another", x.chance(0) * 100 + x.chance(1), 332);
        x.kind(Benches.NEEDLES, 4, 2);
        Due.is("22 in lowest terms", x.chance(0) * 100 + x.chance(1), 209);
        x.kind(Benches.GUESTS, 2, 6);
        // At hand is 010, which weighs 72 of 216 + 3 * 72 + 24.
        Due.is("22 guests", x.chance(0), 3);
        Due.is("22 guests, lower", x.chance(1), 19);
        int[] odd = {-1, 2, LEAST, MOST};
        for (int what : odd) {
            Due.is("22 outside " + what, x.chance(what), OUTSIDE);
        }
        x = Benches.row(1, 5);
        x.kind(Benches.HEIGHTS, 1, 1);
        x.hold(0, 2);
        Due.is("22 certain", x.chance(0) * 10 + x.chance(1), 11);
    }

    private static void mean() {
        LongAgoDraws x = Benches.path(2, 5);
        x.kind(Benches.HEIGHTS, 1, 1);
        x.hold(0, 0);
        Due.is("23 none is 0 / 1", x.mean(0, 0) * 10 + x.mean(0, 1), 1);
        Due.is("23 a half", x.mean(1, 0) * 10 + x.mean(1, 1), 12);
        x.hold(0, 4);
        Due.is("23 4 / 1", x.mean(0, 0) * 10 + x.mean(0, 1), 41);
        x.hold(0, 5);
        Due.is("23 9 / 2", x.mean(1, 0) * 10 + x.mean(1, 1), 92);
        x.kind(Benches.GUESTS, 5, 2);
        // 00 weighs 4, 01 and 10 weigh 10: of 24.
        Due.is("23 guests", x.mean(1, 0) * 100 + x.mean(1, 1), 512);
        x.take(0);
        Due.is("23 whatever is at hand", x.mean(0, 0) * 100 + x.mean(0, 1), 512);
        int[] odd = {-1, 2, LEAST, MOST};
        for (int wrong : odd) {
            Due.is("23 outside " + wrong, x.mean(0, wrong), OUTSIDE);
            Due.is("23 unknown " + wrong, x.mean(wrong, 0), UNKNOWN);
            Due.is("23 unknown before outside " + wrong, x.mean(wrong, wrong), UNKNOWN);
        }
    }

    private static void alike() {
        LongAgoDraws x = Benches.path(3, 5);
        x.kind(Benches.NEEDLES, 3, 1);
        Due.is("24 linked", x.alike(0, 1, 0) * 10 + x.alike(0, 1, 1), 34);
        Due.is("24 over one", x.alike(2, 0, 0) * 10 + x.alike(2, 0, 1), 58);
        Due.is("24 the same place", x.alike(2, 2, 0) * 10 + x.alike(2, 2, 1), 11);
        x.kind(Benches.HEIGHTS, 3, 1);
        x.hold(0, 0);
        x.hold(2, 2);
        Due.is("24 never", x.alike(0, 2, 0) * 10 + x.alike(0, 2, 1), 1);
        int[] odd = {-1, 3, LEAST, MOST};
        for (int wrong : odd) {
            Due.is("24 outside " + wrong, x.alike(0, 1, wrong), OUTSIDE);
            Due.is("24 unknown " + wrong, x.alike(wrong, 1, 0), UNKNOWN);
            Due.is("24 unknown, second " + wrong, x.alike(1, wrong, 0), UNKNOWN);
            Due.is("24 unknown before outside " + wrong, x.alike(1, wrong, wrong), UNKNOWN);
        }
    }

    private static void refusals() {
        LongAgoDraws x = Benches.row(13, 1);
        Due.is("22 outside before full", x.chance(2), OUTSIDE);
        Due.is("23 outside before full", x.mean(0, 2), OUTSIDE);
        Due.is("23 unknown before full", x.mean(13, 0), UNKNOWN);
        Due.is("24 outside before full", x.alike(0, 1, -1), OUTSIDE);
        Due.is("24 unknown before full", x.alike(0, 13, 0), UNKNOWN);
        x.kind(Benches.NEEDLES, 1, 2);
        Due.is("22 outside before no", x.chance(2), OUTSIDE);
        Due.is("23 outside before no", x.mean(0, 2), OUTSIDE);
        Due.is("24 outside before no", x.alike(0, 1, -1), OUTSIDE);
        x = new LongAgoDraws();
        Due.is("20 no place", x.many(), NO);
        Due.is("21 no place", x.all(), NO);
        Due.is("22 no place", x.chance(0), NO);
        Due.is("23 no place", x.mean(0, 0), UNKNOWN);
    }

    private static void told() {
        LongAgoDraws x = Benches.path(4, 2);
        x.kind(Benches.GUESTS, 7, 8);
        x.seed(-6);
        x.put(1, 0);
        int[] due = {4, 3, 2, 7, 8, -6, 0, 2};
        for (int what = 0; what < due.length; what++) {
            Due.is("25 told " + what, x.told(what), due[what]);
        }
        x.draw();
        Due.is("25 drawn", x.told(6), 1);
        int[] odd = {-1, 8, LEAST, MOST};
        for (int what : odd) {
            Due.is("25 outside " + what, x.told(what), LEAST);
        }
        x.kind(Benches.NEEDLES, 1, 2);
        Due.is("25 asks for no good system", x.told(7), 3);
    }

    private static void about() {
        LongAgoDraws x = Benches.row(8, 3);
        int[] order = {5, 1, 7, 0, 6, 2};
        for (int i = 0; i < order.length; i++) {
            x.link(i % 2 == 0 ? 4 : order[i], i % 2 == 0 ? order[i] : 4);
            Due.is("26 neighbours", x.about(4, 3), i + 1);
        }
        int[] due = {0, 1, 2, 5, 6, 7};
        for (int i = 0; i < due.length; i++) {
            Due.is("26 neighbour " + i, x.about(4, 10 + i), due[i]);
        }
        x.hold(4, 2);
        Due.is("26 top", x.about(4, 0), 3);
        Due.is("26 side", x.about(4, 1), 0);
        Due.is("26 side of the next", x.about(5, 1), 1);
        Due.is("26 held", x.about(4, 2), 2);
        Due.is("26 not held", x.about(5, 2), -1);
        Due.is("26 one neighbour", x.about(5, 10), 4);
        Due.is("26 no second", x.about(5, 11), NONE);
        Due.is("26 none", x.about(3, 10), NONE);
        Due.is("26 no sixth", x.about(3, 15), NONE);
        int[] odd = {-1, 4, 9, 16, 5, LEAST, LEAST + 9, MOST};
        for (int what : odd) {
            Due.is("26 outside " + what, x.about(3, what), OUTSIDE);
            Due.is("26 unknown before outside " + what, x.about(8, what), UNKNOWN);
        }
        Due.is("26 unknown", x.about(-1, 0), UNKNOWN);
        Due.is("26 unknown least", x.about(LEAST, 0), UNKNOWN);
    }
}

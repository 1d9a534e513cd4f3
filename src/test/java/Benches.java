/** Systems that more than one test starts from. */
final class Benches {
    static final int NEEDLES = 0, HEIGHTS = 1, GUESTS = 2;

    private Benches() {
    }

    /** PLACES of one TOP with SIDES by turns. */
    static LongAgoDraws row(int places, int top) {
        LongAgoDraws x = new LongAgoDraws();
        for (int p = 0; p < places; p++) {
            x.place(top, p % 2);
        }
        return x;
    }

    /** A row with a LINK from each PLACE to the next. */
    static LongAgoDraws path(int places, int top) {
        LongAgoDraws x = row(places, top);
        for (int p = 0; p + 1 < places; p++) {
            x.link(p, p + 1);
        }
        return x;
    }

    /** As many PLACES and LINKS as there can be, all LINKS between the two SIDES. */
    static LongAgoDraws full(int top) {
        LongAgoDraws x = row(24, top);
        for (int step = 1; step <= 5; step += 2) {
            for (int p = 0; p < 24; p++) {
                x.link(p, (p + step) % 24);
            }
        }
        return x;
    }

    /** Four NEEDLES, all of them neighbours. */
    static LongAgoDraws cluster(int u, int v) {
        LongAgoDraws x = row(4, 1);
        for (int p = 0; p < 4; p++) {
            for (int q = 0; q < p; q++) {
                x.link(p, q);
            }
        }
        x.kind(NEEDLES, u, v);
        return x;
    }

    /** GOOD and SMALL NEEDLES, one of them HELD: 100 is DRAWN, 011 at hand, 000 LOWEST. */
    static LongAgoDraws busy() {
        LongAgoDraws x = path(3, 3);
        x.kind(NEEDLES, 3, 1);
        x.hold(1, 2);
        x.seed(7);
        x.draw();
        x.put(1, 1);
        x.put(2, 1);
        return x;
    }

    /** GOOD and SMALL, all as at first: nothing is DRAWN, and LOWEST is at hand. */
    static LongAgoDraws fresh() {
        return path(3, 3);
    }

    /** NEEDLES that are not GOOD, as u is below v: 100 is at hand. */
    static LongAgoDraws notGood() {
        LongAgoDraws x = path(3, 3);
        x.kind(NEEDLES, 1, 3);
        x.hold(1, 2);
        x.seed(7);
        x.put(0, 1);
        return x;
    }

    /** HEIGHTS of which none is ALLOWED. */
    static LongAgoDraws heldTooFar() {
        LongAgoDraws x = path(2, 5);
        x.kind(HEIGHTS, 1, 1);
        x.hold(0, 0);
        x.hold(1, 2);
        return x;
    }

    /** GUESTS that are not GOOD, as both ends of a LINK are of SIDE 0: 10 is at hand. */
    static LongAgoDraws ofOneSide() {
        LongAgoDraws x = new LongAgoDraws();
        x.place(1, 0);
        x.place(1, 0);
        x.link(0, 1);
        x.kind(GUESTS, 1, 1);
        x.put(0, 1);
        return x;
    }

    /** PLACE 0 has six neighbours, PLACE 7 none. */
    static LongAgoDraws sevenBesideOne() {
        LongAgoDraws x = star(NEEDLES, 1, 1);
        x.place(1, 0);
        return x;
    }

    /** GOOD NEEDLES of 13 PLACES, one too many for a SMALL system; something is DRAWN. */
    static LongAgoDraws large() {
        LongAgoDraws x = row(13, 1);
        x.draw();
        x.put(12, 1);
        return x;
    }

    /** Neither GOOD nor SMALL. */
    static LongAgoDraws largeNotGood() {
        LongAgoDraws x = row(13, 1);
        x.kind(NEEDLES, 8, 9);
        return x;
    }

    /** HEIGHTS without a LINK, one PLACE for each TOP. */
    static LongAgoDraws ofTops(int... tops) {
        LongAgoDraws x = new LongAgoDraws();
        for (int top : tops) {
            x.place(top, 0);
        }
        x.kind(HEIGHTS, 1, 1);
        return x;
    }

    /** PLACE 0 in the middle of six neighbours of the other SIDE. */
    static LongAgoDraws star(int kind, int u, int v) {
        LongAgoDraws x = new LongAgoDraws();
        x.place(5, 0);
        for (int p = 1; p <= 6; p++) {
            x.place(5, 1);
            x.link(0, p);
        }
        x.kind(kind, u, v);
        return x;
    }

    static int sumAt(LongAgoDraws x) {
        int sum = 0;
        for (int p = 0; p < x.told(0); p++) {
            sum += x.at(p);
        }
        return sum;
    }
}

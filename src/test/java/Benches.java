/** Systems that more than one test starts from. */
final class Benches {
    static final int NEEDLES = 0, HEIGHTS = 1, GUESTS = 2;

    private Benches() {
    }

    /** PLACES of one TOP with SIDES by turns. */
    static LongAgoDraws row(int places, int top) {
        LongAgoDraws x = new LongAgoDraws();
        for (int p = 0; p < places; p++) {
            x.place(top, p % 2);
        }
        return x;
    }

    /** A row with a LINK from each PLACE to the next. */
    static LongAgoDraws path(int places, int top) {
        LongAgoDraws x = row(places, top);
        for (int p = 0; p + 1 < places; p++) {
            x.link(p, p + 1);
        }
        return x;
    }

    /** As many PLACES and LINKS as there can be, all LINKS between the two SIDES. */
    static LongAgoDraws full(int top) {
        LongAgoDraws x = row(24, top);
        for (int step = 1; step <= 5; step += 2) {
            for (int p = 0; p < 24; p++) {
                x.link(p, (p + step) % 24);
            }
        }
        return x;
    }

    /** Four NEEDLES, all of them neighbours. */
    static LongAgoDraws cluster(int u, int v) {
        LongAgoDraws x = row(4, 1);
        for (int p = 0; p < 4; p++) {
            for (int q = 0; q < p; q++) {
                x.link(p, q);
            }
        }
        x.kind(NEEDLES, u, v);
        return x;
    }

    static int sumAt(LongAgoDraws x) {
        int sum = 0;
        for (int p = 0; p < x.told(0); p++) {
            sum += x.at(p);
        }
        return sum;
    }
}

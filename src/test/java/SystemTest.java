/** Promises 1 to 8: a new object and its system. */
public final class SystemTest {
    private static final int UNKNOWN = -1, OUTSIDE = -2, STATE = -3, FULL = -4, NO = -5;
    private static final int LEAST = Integer.MIN_VALUE, MOST = Integer.MAX_VALUE;

    public static void main(String[] args) {
        constants();
        newObject();
        place();
        link();
        linkIsFull();
        kind();
        hold();
        good();
        goodHeights();
        bounds();
        boundsOfHeights();
        whatAChangeDoes();
        refusedChangesNothing();
        Due.end("SystemTest");
    }

    private static void constants() {
        Due.is("NONE", LongAgoDraws.NONE, -6);
        Due.is("UNKNOWN", LongAgoDraws.UNKNOWN, UNKNOWN);
        Due.is("OUTSIDE", LongAgoDraws.OUTSIDE, OUTSIDE);
        Due.is("STATE", LongAgoDraws.STATE, STATE);
        Due.is("FULL", LongAgoDraws.FULL, FULL);
        Due.is("NO", LongAgoDraws.NO, NO);
    }

    private static void newObject() {
        LongAgoDraws x = new LongAgoDraws();
        int[] due = {0, 0, 0, 1, 1, 0, 0, 0};
        for (int what = 0; what < due.length; what++) {
            Due.is("1 new told " + what, x.told(what), due[what]);
        }
        Due.is("1 new good", x.good(), 0);
        Due.is("1 new met", x.met(), 1);
        Due.is("1 new at", x.at(0), UNKNOWN);
        Due.is("1 new drawn", x.drawn(0), UNKNOWN);
        Due.is("1 new highest", x.highest(0), UNKNOWN);
        Due.is("1 new draw", x.draw(), NO);
        Due.is("1 new many", x.many(), NO);
        Due.is("1 new seed", x.seed(3), 0);
    }

    private static void place() {
        LongAgoDraws x = new LongAgoDraws();
        int[][] wrong = {{0, 0}, {6, 0}, {1, -1}, {1, 2}, {LEAST, 0}, {MOST, 1}, {3, LEAST}, {3, MOST}, {-1, 5}};
        for (int[] w : wrong) {
            Due.is("2 place " + w[0] + " " + w[1], x.place(w[0], w[1]), OUTSIDE);
        }
        Due.is("2 refused places", x.told(0), 0);
        for (int p = 0; p < 24; p++) {
            Due.is("2 place", x.place(p % 5 + 1, p % 2), p);
            Due.is("2 top", x.about(p, 0), p % 5 + 1);
            Due.is("2 side", x.about(p, 1), p % 2);
            Due.is("2 held", x.about(p, 2), -1);
        }
        Due.is("2 full", x.place(1, 0), FULL);
        Due.is("2 outside before full", x.place(0, 0), OUTSIDE);
        Due.is("2 outside before full, side", x.place(1, 2), OUTSIDE);
        Due.is("2 places", x.told(0), 24);
        Due.is("2 the last stays", x.about(23, 0), 4);
    }

    private static void link() {
        LongAgoDraws x = Benches.row(3, 1);
        Due.is("3 link", x.link(2, 0), 1);
        Due.is("3 linked", x.link(2, 0), NO);
        Due.is("3 linked the other way", x.link(0, 2), NO);
        Due.is("3 one place", x.link(1, 1), NO);
        Due.is("3 next", x.link(0, 1), 2);
        int[] odd = {-1, 3, 24, LEAST, MOST};
        for (int p : odd) {
            Due.is("3 unknown " + p, x.link(p, 0), UNKNOWN);
            Due.is("3 unknown, second " + p, x.link(0, p), UNKNOWN);
            Due.is("3 unknown, both " + p, x.link(p, p), UNKNOWN);
        }
        Due.is("3 links", x.told(1), 2);
    }

    private static void linkIsFull() {
        LongAgoDraws x = Benches.row(24, 1);
        for (int q = 1; q <= 6; q++) {
            Due.is("3 star", x.link(q == 3 ? q : 0, q == 3 ? 0 : q), q);
        }
        Due.is("3 six of the first", x.link(0, 7), FULL);
        Due.is("3 six of the second", x.link(7, 0), FULL);
        Due.is("3 full before one place", x.link(0, 0), FULL);
        Due.is("3 full before linked", x.link(0, 1), FULL);
        Due.is("3 full before linked, turned", x.link(1, 0), FULL);
        Due.is("3 unknown before full", x.link(0, 24), UNKNOWN);
        x = Benches.row(24, 1);
        int links = 0;
        for (int step = 1; step <= 3 && links < 60; step++) {
            for (int p = 0; p < 24 && links < 60; p++) {
                links++;
                Due.is("3 many links", x.link(p, (p + step) % 24), links);
            }
        }
        Due.is("3 sixty", x.link(20, 23), FULL);
        Due.is("3 sixty, before one place", x.link(23, 23), FULL);
        Due.is("3 sixty, before linked", x.link(22, 23), FULL);
        Due.is("3 sixty, behind unknown", x.link(23, -1), UNKNOWN);
        Due.is("3 sixty stay", x.told(1), 60);
    }

    private static void kind() {
        LongAgoDraws x = new LongAgoDraws();
        int[][] wrong = {{-1, 1, 1}, {3, 1, 1}, {0, 0, 1}, {0, 10, 1}, {0, 1, 0}, {0, 1, 10}, {1, 0, 1}, {2, 1, 0},
            {LEAST, 1, 1}, {MOST, 1, 1}, {0, LEAST, 1}, {0, 1, MOST}};
        for (int[] w : wrong) {
            Due.is("4 kind " + w[0] + " " + w[1] + " " + w[2], x.kind(w[0], w[1], w[2]), OUTSIDE);
        }
        Due.is("4 kind stays", x.told(2) * 100 + x.told(3) * 10 + x.told(4), 11);
        for (int kind = 0; kind <= 2; kind++) {
            Due.is("4 kind", x.kind(kind, 9, kind + 1), 1);
            Due.is("4 kind is", x.told(2), kind);
            Due.is("4 u is", x.told(3), 9);
            Due.is("4 v is", x.told(4), kind + 1);
        }
        Due.is("4 v to 9", x.kind(0, 1, 9), 1);
        Due.is("4 not good", x.kind(0, 1, 1), 1);
    }

    private static void hold() {
        LongAgoDraws x = new LongAgoDraws();
        x.place(3, 0);
        x.place(5, 1);
        Due.is("5 hold", x.hold(0, 3), -1);
        Due.is("5 again", x.hold(0, 0), 3);
        Due.is("5 other place", x.hold(1, 5), -1);
        Due.is("5 free", x.hold(0, -1), 0);
        Due.is("5 free again", x.hold(0, -1), -1);
        int[] wrong = {-2, 4, LEAST, MOST};
        for (int number : wrong) {
            Due.is("5 outside " + number, x.hold(0, number), OUTSIDE);
        }
        Due.is("5 held is", x.about(0, 2), -1);
        Due.is("5 other held is", x.about(1, 2), 5);
        int[] odd = {-1, 2, LEAST, MOST};
        for (int p : odd) {
            Due.is("5 unknown " + p, x.hold(p, 0), UNKNOWN);
            Due.is("5 unknown before outside " + p, x.hold(p, 9), UNKNOWN);
        }
    }

    private static void good() {
        LongAgoDraws x = Benches.path(3, 1);
        for (int u = 1; u <= 9; u++) {
            for (int v = 1; v <= 9; v++) {
                x.kind(Benches.NEEDLES, u, v);
                Due.is("6 needles " + u + " " + v, x.good(), u >= v ? 1 : 0);
            }
        }
        x.kind(Benches.GUESTS, 1, 9);
        Due.is("6 guests", x.good(), 1);
        x.link(0, 2);
        Due.is("6 guests of one side", x.good(), 0);
        x.kind(Benches.HEIGHTS, 1, 9);
        Due.is("6 sides count for guests alone", x.good(), 1);
        x.kind(Benches.NEEDLES, 2, 1);
        Due.is("6 sides count not for needles", x.good(), 1);
        x = Benches.row(3, 1);
        x.kind(Benches.GUESTS, 1, 1);
        x.link(0, 2);
        Due.is("6 the first link alone is of one side", x.good(), 0);
        x.link(0, 1);
        Due.is("6 the first link is of one side", x.good(), 0);
        x = new LongAgoDraws();
        for (int kind = 0; kind <= 2; kind++) {
            x.kind(kind, 1, 1);
            Due.is("6 no place", x.good(), 0);
        }
        x.place(1, 0);
        Due.is("6 one place", x.good(), 1);
    }

    private static void goodHeights() {
        LongAgoDraws x = Benches.path(4, 5);
        x.kind(Benches.HEIGHTS, 1, 1);
        x.hold(0, 0);
        for (int top = 0; top <= 5; top++) {
            x.hold(3, top);
            Due.is("6 heights over three links " + top, x.good(), top <= 3 ? 1 : 0);
        }
        x.hold(3, 5);
        x.kind(Benches.NEEDLES, 1, 1);
        Due.is("6 held counts for heights alone", x.good(), 1);
        x.kind(Benches.GUESTS, 1, 1);
        Due.is("6 held counts not for guests", x.good(), 1);
        x.kind(Benches.HEIGHTS, 1, 1);
        x.hold(0, -1);
        Due.is("6 not held", x.good(), 1);
        x = new LongAgoDraws();
        x.place(5, 0);
        x.place(1, 0);
        x.place(5, 0);
        x.link(0, 1);
        x.link(2, 1);
        x.kind(Benches.HEIGHTS, 1, 1);
        x.hold(0, 3);
        Due.is("6 a low top forbids", x.good(), 0);
        x.hold(0, 2);
        Due.is("6 a low top allows", x.good(), 1);
    }

    private static void bounds() {
        LongAgoDraws x = Benches.path(4, 3);
        x.hold(1, 3);
        x.kind(Benches.NEEDLES, 2, 1);
        for (int p = 0; p < 4; p++) {
            Due.is("7 needles highest " + p, x.highest(p), 1);
            Due.is("8 needles lowest " + p, x.lowest(p), 0);
        }
        x.kind(Benches.GUESTS, 2, 1);
        for (int p = 0; p < 4; p++) {
            Due.is("7 guests highest " + p, x.highest(p), p % 2 == 0 ? 1 : 0);
            Due.is("8 guests lowest " + p, x.lowest(p), p % 2 == 0 ? 0 : 1);
        }
        x.kind(Benches.NEEDLES, 1, 2);
        int[] odd = {-1, 4, LEAST, MOST};
        for (int p : odd) {
            Due.is("7 unknown before no " + p, x.highest(p), UNKNOWN);
            Due.is("8 unknown before no " + p, x.lowest(p), UNKNOWN);
        }
        Due.is("7 not good", x.highest(0), NO);
        Due.is("8 not good", x.lowest(0), NO);
    }

    /** Held in the middle at 5, each further PLACE has one more below and above it. */
    private static void boundsOfHeights() {
        LongAgoDraws x = Benches.path(24, 5);
        x.kind(Benches.HEIGHTS, 1, 1);
        x.hold(11, 0);
        for (int p = 0; p < 24; p++) {
            Due.is("7 heights by a low one " + p, x.highest(p), Math.min(5, Math.abs(p - 11)));
            Due.is("8 heights by a low one " + p, x.lowest(p), 0);
        }
        x.hold(11, 5);
        for (int p = 0; p < 24; p++) {
            Due.is("7 heights by a high one " + p, x.highest(p), 5);
            Due.is("8 heights by a high one " + p, x.lowest(p), Math.max(0, 5 - Math.abs(p - 11)));
        }
        x = new LongAgoDraws();
        int[] tops = {5, 5, 1, 4};
        for (int top : tops) {
            x.place(top, 0);
        }
        // The LINKS stand the other way round, so that a bound has to come back over them.
        x.link(1, 0);
        x.link(2, 1);
        x.kind(Benches.HEIGHTS, 7, 7);
        int[] due = {3, 2, 1, 4};
        for (int p = 0; p < 4; p++) {
            Due.is("7 heights by tops " + p, x.highest(p), due[p]);
            Due.is("8 heights by tops " + p, x.lowest(p), 0);
        }
    }

    private static LongAgoDraws drawnAndMoved() {
        LongAgoDraws x = Benches.path(3, 2);
        x.kind(Benches.NEEDLES, 3, 1);
        x.draw();
        x.take(0);
        return x;
    }

    private static void whatAChangeDoes() {
        for (int change = 0; change < 5; change++) {
            LongAgoDraws x = drawnAndMoved();
            Due.is("ahead of a change: drawn", x.told(6), 1);
            Due.is("ahead of a change: at hand", Benches.sumAt(x), 3);
            switch (change) {
                case 0: Due.is("2 goes", x.place(1, 1), 3); break;
                case 1: Due.is("3 goes", x.link(0, 2), 3); break;
                case 2: Due.is("4 goes", x.kind(0, 3, 1), 1); break;
                case 3: Due.is("5 goes", x.hold(2, -1), -1); break;
                default: Due.is("4 goes to guests", x.kind(2, 3, 1), 1); break;
            }
            Due.is("drawn is gone by change " + change, x.told(6), 0);
            Due.is("met is gone by change " + change, x.met(), 1);
            Due.is("drawn answers STATE by change " + change, x.drawn(0), STATE);
            Due.is("at hand is lowest by change " + change, Benches.sumAt(x), change == 4 ? 1 : 0);
        }
        LongAgoDraws x = Benches.path(3, 5);
        x.kind(Benches.HEIGHTS, 1, 1);
        x.hold(0, 4);
        Due.is("at hand is lowest in heights", x.at(0) * 100 + x.at(1) * 10 + x.at(2), 432);
        x.hold(2, 1);
        Due.is("at hand is 0, if not good", Benches.sumAt(x), 0);
        x.hold(2, 3);
        Due.is("at hand is lowest again", x.at(0) * 100 + x.at(1) * 10 + x.at(2), 433);
    }

    private static void refusedChangesNothing() {
        LongAgoDraws x = drawnAndMoved();
        x.place(6, 0);
        x.place(1, 2);
        x.link(0, 3);
        x.link(0, 0);
        x.link(0, 1);
        x.kind(3, 1, 1);
        x.kind(1, 0, 1);
        x.hold(3, 0);
        x.hold(0, 3);
        // These three change no system, though they stand among the calls of part 1.
        Due.is("6 asks only", x.good(), 1);
        Due.is("7 asks only", x.highest(0), 1);
        Due.is("8 asks only", x.lowest(0), 0);
        int[] due = {3, 2, 0, 3, 1, 0, 1, 2};
        for (int what = 0; what < due.length; what++) {
            Due.is("refused: told " + what, x.told(what), due[what]);
        }
        Due.is("refused: at hand", Benches.sumAt(x), 3);
    }
}

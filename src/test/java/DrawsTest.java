/** Promises 15 to 19: draws. */
public final class DrawsTest {
    private static final int UNKNOWN = -1, OUTSIDE = -2, STATE = -3, NO = -5;
    private static final int LEAST = Integer.MIN_VALUE, MOST = Integer.MAX_VALUE;

    public static void main(String[] args) {
        gap();
        draw();
        drawHasLimits();
        drawOfOneState();
        drawnAndMet();
        tally();
        tallyIsRefused();
        ofAFullBench();
        drawsAreLikelyAsTheyShould();
        Due.end("DrawsTest");
    }

    private static LongAgoDraws threeNeedles(int seed) {
        LongAgoDraws x = Benches.path(3, 1);
        x.kind(Benches.NEEDLES, 3, 1);
        x.seed(seed);
        return x;
    }

    private static void gap() {
        LongAgoDraws x = threeNeedles(7);
        Due.is("15 gap 0", x.gap(0), 3);
        Due.is("15 gap 1", x.gap(1), 2);
        Due.is("15 gap 5", x.gap(5), 1);
        Due.is("15 gap 8", x.gap(8), 1);
        Due.is("15 gap 16", x.gap(16), 0);
        Due.is("15 gap 4096", x.gap(4096), 0);
        x.put(1, 1);
        x.gap(3);
        Due.is("15 at hand stays", x.at(0) * 100 + x.at(1) * 10 + x.at(2), 10);
        Due.is("15 nothing is drawn by it", x.told(6), 0);
        int[] odd = {-1, 4097, LEAST, MOST};
        for (int b : odd) {
            Due.is("15 outside " + b, x.gap(b), OUTSIDE);
        }
        x.kind(Benches.NEEDLES, 1, 3);
        Due.is("15 not good", x.gap(0), NO);
        Due.is("15 outside before no", x.gap(-1), OUTSIDE);
        Due.is("15 no place", new LongAgoDraws().gap(0), NO);
        x = Benches.path(3, 1);
        x.kind(Benches.GUESTS, 1, 1);
        Due.is("15 guests", x.gap(0), 3);
        x.kind(Benches.HEIGHTS, 1, 1);
        x.hold(1, 0);
        Due.is("15 a held one is alike", x.gap(0), 2);
    }

    private static void draw() {
        int[] backs = {8, 8, 32, 16, 16, 8, 16, 32};
        int[] mets = {-1, -3, -21, -3, -11, -5, -5, -18};
        int[] states = {1110, 1001, 1101, 0, 111, 111, 100, 111};
        LongAgoDraws x = Benches.path(4, 1);
        x.link(3, 0);
        x.kind(Benches.NEEDLES, 2, 1);
        for (int seed = 0; seed < backs.length; seed++) {
            x.seed(seed);
            Due.is("16 draw of seed " + seed, x.draw(), backs[seed]);
            Due.is("18 met of seed " + seed, x.met(), mets[seed]);
            Due.is("17 drawn of seed " + seed,
                x.drawn(0) * 1000 + x.drawn(1) * 100 + x.drawn(2) * 10 + x.drawn(3), states[seed]);
            Due.is("16 same again " + seed, x.draw(), backs[seed]);
        }
        Due.is("16 at hand stays", Benches.sumAt(x), 0);
        x.kind(Benches.NEEDLES, 1, 2);
        Due.is("16 not good", x.draw(), NO);
        Due.is("16 no place", new LongAgoDraws().draw(), NO);
    }

    private static void drawHasLimits() {
        LongAgoDraws x = Benches.cluster(7, 1);
        x.seed(18);
        Due.is("16 they do not meet", x.draw(), NO);
        Due.is("16 nothing drawn", x.met(), 1);
        Due.isTrue("15 they are unlike still", x.gap(4096) > 0);
        x.seed(1);
        Due.is("16 the furthest", x.draw(), 4096);
        Due.is("18 the furthest", x.met(), -3295);
        int drawn = x.drawn(0) * 1000 + x.drawn(1) * 100 + x.drawn(2) * 10 + x.drawn(3);
        x.seed(18);
        Due.is("16 they do not meet again", x.draw(), NO);
        Due.is("16 what was drawn stays",
            x.drawn(0) * 1000 + x.drawn(1) * 100 + x.drawn(2) * 10 + x.drawn(3), drawn);
        Due.is("16 where they met stays", x.met(), -3295);
        Due.is("19 they do not meet", x.tally(0, 18, 1), NO);
        Due.is("19 one of them does not", x.tally(0, 17, 3), NO);
        Due.is("19 what was drawn stays", x.met(), -3295);
    }

    private static void drawOfOneState() {
        LongAgoDraws x = new LongAgoDraws();
        x.place(5, 1);
        x.kind(Benches.HEIGHTS, 9, 9);
        x.hold(0, 4);
        Due.is("16 highest is lowest", x.draw(), 1);
        Due.is("18 highest is lowest", x.met(), 0);
        Due.is("17 highest is lowest", x.drawn(0), 4);
        Due.is("15 highest is lowest", x.gap(0), 0);
        Due.is("19 highest is lowest", x.tally(0, 5, 8), 32);
        x = Benches.row(1, 1);
        Due.is("16 one needle", x.draw(), 1);
        Due.is("18 one needle", x.met(), -1);
    }

    private static void drawnAndMet() {
        LongAgoDraws x = threeNeedles(7);
        Due.is("17 nothing", x.drawn(0), STATE);
        Due.is("18 nothing", x.met(), 1);
        Due.is("17 unknown before state", x.drawn(3), UNKNOWN);
        x.draw();
        int[] odd = {-1, 3, LEAST, MOST};
        for (int p : odd) {
            Due.is("17 unknown " + p, x.drawn(p), UNKNOWN);
        }
        Due.is("18 met", x.met(), -11);
        Due.is("17 drawn", x.drawn(0) * 100 + x.drawn(1) * 10 + x.drawn(2), 100);
        x.seed(8);
        x.run(0, 40);
        x.gap(9);
        x.tally(0, 9, 2);
        x.put(0, 1);
        x.take(0);
        x.good();
        x.highest(0);
        x.lowest(0);
        Due.is("18 met stays", x.met(), -11);
        Due.is("17 drawn stays", x.drawn(0) * 100 + x.drawn(1) * 10 + x.drawn(2), 100);
        x.kind(Benches.NEEDLES, 3, 1);
        Due.is("17 gone", x.drawn(0), STATE);
        Due.is("18 gone", x.met(), 1);
    }

    private static int talliedByHand(int p, int s, int n) {
        int sum = 0;
        for (int i = 0; i < n; i++) {
            LongAgoDraws x = threeNeedles(s + i);
            x.draw();
            sum += x.drawn(p);
        }
        return sum;
    }

    private static void tally() {
        LongAgoDraws x = threeNeedles(7);
        Due.is("19 known", x.tally(1, 0, 8), 2);
        x.draw();
        for (int n = 1; n <= 8; n++) {
            Due.is("19 of " + n, x.tally(n % 3, 100, n), talliedByHand(n % 3, 100, n));
            Due.is("19 over the last seed " + n, x.tally(n % 3, MOST - 3, n), talliedByHand(n % 3, MOST - 3, n));
        }
        Due.is("19 seed stays", x.told(5), 7);
        Due.is("19 met stays", x.met(), -11);
        Due.is("19 drawn stays", x.drawn(0) * 100 + x.drawn(1) * 10 + x.drawn(2), 100);
        Due.is("19 at hand stays", Benches.sumAt(x), 0);
    }

    private static void tallyIsRefused() {
        LongAgoDraws x = threeNeedles(7);
        int[] wrong = {0, 9, -1, LEAST, MOST};
        for (int n : wrong) {
            Due.is("19 outside " + n, x.tally(0, 0, n), OUTSIDE);
            Due.is("19 unknown before outside " + n, x.tally(3, 0, n), UNKNOWN);
        }
        Due.is("19 unknown", x.tally(-1, 0, 1), UNKNOWN);
        x.kind(Benches.NEEDLES, 1, 3);
        Due.is("19 not good", x.tally(0, 0, 1), NO);
        Due.is("19 outside before no", x.tally(0, 0, 0), OUTSIDE);
        Due.is("19 unknown before no", x.tally(3, 0, 1), UNKNOWN);
    }

    private static void ofAFullBench() {
        LongAgoDraws x = Benches.full(5);
        Due.is("15 full bench, links", x.told(1), 60);
        x.kind(Benches.NEEDLES, 2, 2);
        Due.is("15 needles of a full bench", x.gap(0), 24);
        int back = x.draw();
        Due.isTrue("16 needles of a full bench", back > 0 && x.gap(back) == 0);
        // Where u is v a NUMBER hangs on the LOT alone: they meet at the TICK by which each PLACE has had one.
        Due.isTrue("18 needles of a full bench", x.met() < -1 && x.gap(back / 2) > 0);
        x.kind(Benches.HEIGHTS, 1, 1);
        x.hold(0, 2);
        Due.is("15 heights of a full bench", x.gap(0), 23);
        back = x.draw();
        Due.isTrue("16 heights of a full bench", back > 0 && x.gap(back) == 0);
        Due.is("17 heights of a full bench", x.drawn(0), 2);
        Due.is("10 heights of a full bench", x.put(23, 5), NO);
        x.kind(Benches.GUESTS, 1, 1);
        Due.is("15 guests of a full bench", x.gap(0), 24);
        Due.is("11 guests of a full bench", x.take(0), 1);
        Due.is("10 guests of a full bench", x.put(22, 0), 1);
        Due.isTrue("14 guests of a full bench", x.run(0, 2000) > 0);
    }

    /** The bench's aim: how often a state is drawn comes near its CHANCE. */
    private static void drawsAreLikelyAsTheyShould() {
        LongAgoDraws x = null;
        int draws = 20000;
        int sum = 0;
        int[] often = new int[8];
        for (int seed = 0; seed < draws; seed++) {
            // An object is promised for 512 calls.
            if (seed % 50 == 0) {
                x = Benches.path(3, 1);
                x.kind(Benches.GUESTS, 2, 1);
            }
            x.seed(seed);
            Due.isTrue("16 meets", x.draw() > 0);
            sum += x.drawn(1);
            often[x.drawn(0) * 4 + x.drawn(1) * 2 + x.drawn(2)]++;
        }
        // 000 weighs 1, 001, 010 and 100 weigh 2, 101 weighs 4: of 11.
        int[] weights = {1, 2, 2, 0, 2, 4, 0, 0};
        for (int state = 0; state < 8; state++) {
            int due = draws * weights[state] / 11;
            Due.isTrue("16 state " + state + " is drawn about " + due + " times, not " + often[state],
                Math.abs(often[state] - due) < 400);
        }
        Due.isTrue("16 mean", x.mean(1, 0) == 2 && x.mean(1, 1) == 11 && Math.abs(sum - draws * 2 / 11) < 400);
    }
}

import java.util.Random;

/** Runs of calls, told by fixed seeds, on the class and on the model: each answer has to be the same. */
public final class AgainstModelTest {
    private static final int RUNS = 1800;
    // An object is promised for 512 calls; to compare the states takes some 120 of them.
    private static final int MOST_CALLS = 512 - 125;

    private final Random random;
    private final String name;
    private final LongAgoDraws x = new LongAgoDraws();
    private final Model model = new Model();
    private int places;
    private int calls = 0;

    private AgainstModelTest(int run) {
        random = new Random(run);
        name = "run " + run + ": ";
    }

    public static void main(String[] args) {
        for (int run = 0; run < RUNS; run++) {
            new AgainstModelTest(run).play(run);
        }
        Due.end("AgainstModelTest");
    }

    /** By turns small systems, middling ones and such as run against the limits. */
    private void play(int run) {
        build(run % 3 == 0 ? 1 + random.nextInt(5) : run % 3 == 1 ? 1 + random.nextInt(10) : 14 + random.nextInt(12));
        while (calls < MOST_CALLS) {
            if (random.nextInt(12) == 0) {
                changeSystem();
            } else {
                ask();
            }
            if (calls < MOST_CALLS && random.nextInt(20) == 0) {
                compareStates();
            }
        }
        if (calls < MOST_CALLS + 5) {
            compareStates();
        }
        Due.isTrue(name + "512 calls at most, not " + calls, calls <= 512);
    }

    private void build(int wanted) {
        int most = 1 + random.nextInt(5);
        int kind = random.nextInt(3);
        int u = 1 + random.nextInt(9);
        int v = kind == 0 && random.nextInt(5) > 0 ? 1 + random.nextInt(u) : 1 + random.nextInt(9);
        is("kind " + kind + " " + u + " " + v, x.kind(kind, u, v), model.kind(kind, u, v));
        for (int i = 0; i < wanted; i++) {
            int top = 1 + random.nextInt(most);
            is("place " + top + " " + i % 2, x.place(top, i % 2), model.place(top, i % 2));
            places = Math.min(places + 1, 24);
        }
        int links = random.nextInt(wanted > 12 ? 90 : wanted + 2);
        for (int i = 0; i < links; i++) {
            int p = place();
            int q = random.nextInt(15) == 0 ? place() : crossing(p);
            is("link " + p + " " + q, x.link(p, q), model.link(p, q));
        }
        int seed = random.nextInt();
        is("seed " + seed, x.seed(seed), model.seed(seed));
    }

    /** A PLACE, now and then a number that there is no PLACE with. */
    private int place() {
        return random.nextInt(40) == 0 ? odd() : random.nextInt(Math.max(places, 1));
    }

    /** Mostly a PLACE of the other SIDE, so that GUESTS are GOOD often enough. */
    private int crossing(int p) {
        int q = place();
        return ((p ^ q) & 1) == 1 ? q : (q ^ 1) % Math.max(places, 1);
    }

    private int odd() {
        int[] odds = {-1, 24, places, -2, 7, 4097, Integer.MIN_VALUE, Integer.MAX_VALUE};
        return odds[random.nextInt(odds.length)];
    }

    private int orOdd(int number) {
        return random.nextInt(25) == 0 ? odd() : number;
    }

    private void changeSystem() {
        int p = place();
        int a = orOdd(random.nextInt(7) - 1);
        switch (random.nextInt(8)) {
            case 0: {
                int side = orOdd(random.nextInt(2));
                int got = x.place(a, side);
                places = got >= 0 ? got + 1 : places;
                is("place " + a + " " + side, got, model.place(a, side));
                break;
            }
            case 1: case 2: {
                int q = place();
                is("link " + p + " " + q, x.link(p, q), model.link(p, q));
                break;
            }
            case 3: case 4: {
                int kind = orOdd(random.nextInt(3));
                int u = orOdd(1 + random.nextInt(9));
                int v = orOdd(1 + random.nextInt(9));
                is("kind " + kind + " " + u + " " + v, x.kind(kind, u, v), model.kind(kind, u, v));
                break;
            }
            default:
                is("hold " + p + " " + a, x.hold(p, a), model.hold(p, a));
                break;
        }
    }

    private void ask() {
        int p = place();
        int q = place();
        int what = orOdd(random.nextInt(2));
        switch (random.nextInt(16)) {
            case 0: case 1: {
                int number = orOdd(random.nextInt(4));
                is("put " + p + " " + number, x.put(p, number), model.put(p, number));
                break;
            }
            case 2: {
                int which = orOdd(random.nextInt(3));
                is("take " + which, x.take(which), model.take(which));
                break;
            }
            case 3: {
                int seed = random.nextInt();
                is("seed " + seed, x.seed(seed), model.seed(seed));
                break;
            }
            case 4: {
                int t = random.nextInt();
                is("tick " + t + " " + what, x.tick(t, what), model.tick(t, what));
                break;
            }
            case 5: case 6: {
                int t = orOdd(random.nextInt());
                int e = t + orOdd(random.nextInt(30));
                is("run " + t + " " + e, x.run(t, e), model.run(t, e));
                break;
            }
            case 7: {
                int b = orOdd(random.nextInt(60));
                is("gap " + b, x.gap(b), model.gap(b));
                break;
            }
            case 8: case 9:
                is("draw", x.draw(), model.draw());
                break;
            case 10: {
                int s = orOdd(random.nextInt());
                int n = orOdd(random.nextInt(4));
                is("tally " + p + " " + s + " " + n, x.tally(p, s, n), model.tally(p, s, n));
                break;
            }
            case 11:
                is("many", x.many(), model.many());
                is("all", x.all(), model.all());
                break;
            case 12:
                is("chance " + what, x.chance(what), model.chance(what));
                break;
            case 13:
                is("mean " + p + " " + what, x.mean(p, what), model.mean(p, what));
                break;
            case 14:
                is("alike " + p + " " + q + " " + what, x.alike(p, q, what), model.alike(p, q, what));
                break;
            default: {
                int about = orOdd(random.nextInt(18) - 1);
                is("about " + p + " " + about, x.about(p, about), model.about(p, about));
                break;
            }
        }
    }

    private void compareStates() {
        is("good", x.good(), model.good());
        is("met", x.met(), model.met());
        for (int what = -1; what < 9; what++) {
            is("told " + what, x.told(what), model.told(what));
        }
        for (int p = -1; p <= places; p++) {
            is("at " + p, x.at(p), model.at(p));
            is("highest " + p, x.highest(p), model.highest(p));
            is("lowest " + p, x.lowest(p), model.lowest(p));
            is("drawn " + p, x.drawn(p), model.drawn(p));
        }
    }

    private void is(String call, long got, long want) {
        calls++;
        Due.is(name + call, got, want);
    }
}

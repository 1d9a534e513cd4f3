import java.math.BigInteger;
import java.util.ArrayList;
import java.util.List;
import java.util.Random;

/** What the Terms say of all ALLOWED STATES, looked at in small systems by going through each of them. */
public final class EdgesByEachStateTest {
    private static final int HEIGHTS = 1, GUESTS = 2;
    private static final int SYSTEMS = 120;

    public static void main(String[] args) throws IllegalAccessException {
        Edges.run(EdgesByEachStateTest.class, "terms", 1, 3);
    }

    /** A small system, told by a number: always the same one, on an object (and a model) of its own. */
    private static final class Case {
        final LongAgoDraws x = new LongAgoDraws();
        final Model model = new Model();
        final int places;
        final int kind;
        final String name;

        Case(int number) {
            Random random = new Random(number);
            places = 1 + random.nextInt(5);
            kind = number % 3;
            name = "system " + number + ": ";
            int v = 1 + random.nextInt(4);
            int u = v + random.nextInt(4);
            x.kind(kind, u, v);
            model.kind(kind, u, v);
            addPlaces(random);
            addLinks(random);
            if (random.nextInt(2) == 0) {
                int p = random.nextInt(places);
                hold(p, random.nextInt(x.about(p, 0) + 1));
            }
            int seed = random.nextInt();
            x.seed(seed);
            model.seed(seed);
        }

        private void addPlaces(Random random) {
            for (int p = 0; p < places; p++) {
                int top = 1 + random.nextInt(4);
                x.place(top, p % 2);
                model.place(top, p % 2);
            }
        }

        private void addLinks(Random random) {
            for (int i = 0; i < places; i++) {
                int p = random.nextInt(places);
                int q = random.nextInt(places);
                if (kind != GUESTS || (p + q) % 2 == 1) {
                    x.link(p, q);
                    model.link(p, q);
                }
            }
        }

        void hold(int p, int number) {
            x.hold(p, number);
            model.hold(p, number);
        }

        int height(int p, int number) {
            return kind == GUESTS && p % 2 == 1 ? 1 - number : number;
        }

        /** The WEIGHT of THE STATE AT HAND, by its CHANCE. */
        long weight() {
            return x.chance(0) * (x.all() / x.chance(1));
        }

        /** Brings THE STATE AT HAND to this one by small steps, each of them ALLOWED. */
        void bring(int[] state) {
            boolean isMoving = true;
            while (isMoving) {
                isMoving = false;
                for (int p = 0; p < places; p++) {
                    int at = x.at(p);
                    isMoving |= at != state[p] && x.put(p, at + Integer.signum(state[p] - at)) >= 0;
                }
            }
            Due.is(name + "brought", Edges.atHand(x), digits(state));
        }
    }

    private static List<Case> goodOnes() {
        List<Case> cases = new ArrayList<>();
        for (int number = 0; number < SYSTEMS; number++) {
            Case one = new Case(number);
            if (one.x.good() == 1) {
                cases.add(one);
            }
        }
        Due.isTrue("most systems are GOOD, not " + cases.size(), cases.size() > SYSTEMS / 2);
        return cases;
    }

    private static long digits(int[] state) {
        long digits = 0;
        for (int number : state) {
            digits = digits * 10 + number;
        }
        return digits;
    }

    // ---- part 1

    private static void terms1HeightsAreGoodJustWhereAStateIsAllowed() {
        int[] often = new int[2];
        for (int number = HEIGHTS; number < 3 * SYSTEMS; number += 3) {
            Case one = new Case(number);
            for (int p = 0; p < one.places; p++) {
                one.hold(p, (number + p * 3) % (one.x.about(p, 0) + 1));
                int due = one.model.allowedStates().isEmpty() ? 0 : 1;
                often[due]++;
                Due.is(one.name + "GOOD with PLACES HELD to " + p, one.x.good(), due);
            }
        }
        Due.isTrue("both come often, not " + often[0] + " and " + often[1], often[0] > 50 && often[1] > 50);
    }

    private static void terms1HighestAndLowestAreAllowedAndAsGreatAndSmallAsAny() {
        for (Case one : goodOnes()) {
            int[] high = new int[one.places];
            int[] low = new int[one.places];
            List<Long> allowed = new ArrayList<>();
            for (int p = 0; p < one.places; p++) {
                high[p] = one.x.highest(p);
                low[p] = one.x.lowest(p);
            }
            for (int[] state : one.model.allowedStates()) {
                allowed.add(digits(state));
                for (int p = 0; p < one.places; p++) {
                    Due.isTrue(one.name + "none is above HIGHEST at " + p,
                        one.height(p, state[p]) <= one.height(p, high[p]));
                    Due.isTrue(one.name + "none is below LOWEST at " + p,
                        one.height(p, state[p]) >= one.height(p, low[p]));
                }
            }
            Due.isTrue(one.name + "HIGHEST is ALLOWED", allowed.contains(digits(high)));
            Due.isTrue(one.name + "LOWEST is ALLOWED", allowed.contains(digits(low)));
        }
    }

    private static void terms1BothPlacesOfALinkAreNeighboursThen() {
        LongAgoDraws x = Benches.row(4, 1);
        Due.is("none ahead of it", x.about(1, 3) + x.about(3, 3), 0);
        x.link(3, 1);
        Due.is("of the one", x.about(3, 10), 1);
        Due.is("of the other", x.about(1, 10), 3);
        Due.is("one each", x.about(1, 3) * 10 + x.about(3, 3), 11);
        Due.is("none else", x.about(0, 3) + x.about(2, 3), 0);
    }

    // ---- part 2

    private static void terms2ATickChangesTheNumberOfItsPlaceAlone() {
        int changes = 0;
        for (Case one : goodOnes()) {
            for (int t = -10; t < 20; t++) {
                int p = one.x.tick(t, 0);
                int[] before = atHand(one);
                int changed = one.x.run(t, t + 1);
                int[] after = atHand(one);
                changes += changed;
                Due.is(one.name + "whether TICK " + t + " changed it", changed, before[p] == after[p] ? 0 : 1);
                after[p] = before[p];
                Due.is(one.name + "the others by TICK " + t, digits(after), digits(before));
            }
        }
        Due.isTrue("TICKS change STATES, not " + changes, changes > SYSTEMS);
    }

    private static int[] atHand(Case one) {
        int[] state = new int[one.places];
        for (int p = 0; p < one.places; p++) {
            state[p] = one.x.at(p);
        }
        return state;
    }

    private static void terms2ATickTakesTheLeastHeightByItsLot() {
        for (Case one : goodOnes()) {
            for (int t = 100; t < 108; t++) {
                int p = one.x.tick(t, 0);
                int due = byLot(one, p, one.x.tick(t, 1));
                one.x.run(t, t + 1);
                Due.is(one.name + "by TICK " + t, one.x.at(p), due);
            }
        }
    }

    /** The NUMBER that is due, by the WEIGHTS of all ALLOWED STATES that differ at p alone. */
    private static int byLot(Case one, int p, int lot) {
        int before = one.x.at(p);
        long[] upTo = new long[6];
        long ofAll = 0;
        for (int height = 0; height <= 5; height++) {
            int number = one.height(p, height);
            ofAll += one.x.put(p, number) < 0 ? 0 : one.weight();
            upTo[height] = ofAll;
        }
        one.x.put(p, before);
        int least = 0;
        while (lot * ofAll >= 65536 * upTo[least]) {
            least++;
        }
        return one.height(p, least);
    }

    private static void terms2WhatIsDrawnIsTheStateThatBothAreThen() {
        for (Case one : goodOnes()) {
            int back = one.x.draw();
            Due.isTrue(one.name + "they meet", back > 0);
            long drawn = Edges.drawn(one.x);
            one.x.take(0);
            one.x.run(-back, 0);
            Due.is(one.name + "HIGHEST run from -B to 0", Edges.atHand(one.x), drawn);
            one.x.take(1);
            one.x.run(-back, 0);
            Due.is(one.name + "LOWEST run from -B to 0", Edges.atHand(one.x), drawn);
        }
    }

    // ---- part 3

    private static void terms3AllIsTheWeightOfEachAllowedStateTogether() {
        for (int number = 0; number < SYSTEMS; number += 5) {
            List<int[]> states = new Case(number).model.allowedStates();
            long sum = 0;
            for (int[] state : states) {
                Case one = new Case(number);
                one.bring(state);
                sum += one.weight();
            }
            LongAgoDraws x = new Case(number).x;
            Due.is("system " + number + ": how many", x.many(), x.good() == 1 ? states.size() : Edges.NO);
            Due.is("system " + number + ": of all", x.all(), x.good() == 1 ? sum : Edges.NO);
        }
    }

    private static void terms3MeansAndLikesAreByTheChancesOfStates() {
        for (int number = 0; number < SYSTEMS; number += 7) {
            LongAgoDraws x = new Case(number).x;
            long[] parts = new long[2];
            int last = x.told(0) - 1;
            for (int[] state : new Case(number).model.allowedStates()) {
                Case one = new Case(number);
                one.bring(state);
                long weight = one.weight();
                parts[0] += weight * state[last];
                parts[1] += state[0] == state[last] ? weight : 0;
            }
            if (x.good() == 1) {
                isShare("system " + number + ": mean", x.mean(last, 0), x.mean(last, 1), parts[0], x.all());
                isShare("system " + number + ": alike", x.alike(0, last, 0), x.alike(0, last, 1), parts[1], x.all());
            }
        }
    }

    private static void isShare(String call, long upper, long lower, long part, long whole) {
        long divisor = BigInteger.valueOf(part).gcd(BigInteger.valueOf(whole)).longValue();
        Due.is(call + ", upper", upper, part / divisor);
        Due.is(call + ", lower", lower, whole / divisor);
    }
}

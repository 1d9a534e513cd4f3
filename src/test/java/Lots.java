import java.math.BigInteger;

/** The numbers of TICKS worked out without an int that wraps: all of them between 0 and 2 to the 32. */
final class Lots {
    private static final BigInteger ROUND = BigInteger.ONE.shiftLeft(32);

    private Lots() {
    }

    static int place(int seed, int t, int places) {
        return (int) (mixed(seed, t) / 65536 % places);
    }

    static int lot(int seed, int t) {
        return (int) (mixed(seed, t) % 65536);
    }

    /** The first SEED from 0 on with which TICK t is of this PLACE and has a LOT from least to most. */
    static int seedFor(int t, int places, int p, int least, int most) {
        for (int seed = 0; seed < 10000000; seed++) {
            if (place(seed, t, places) == p && lot(seed, t) >= least && lot(seed, t) <= most) {
                return seed;
            }
        }
        throw new IllegalStateException("no such SEED");
    }

    static long mixed(int seed, int t) {
        long m = round(round(seed, 1103515245L) + round(t, 12345L) + 1013904223L, 1);
        m = round(m ^ m / 32768, 739982445L);
        m = round(m ^ m / 4096, 695872825L);
        return m ^ m / 32768;
    }

    private static long round(long number, long times) {
        return BigInteger.valueOf(number).multiply(BigInteger.valueOf(times)).mod(ROUND).longValue();
    }
}

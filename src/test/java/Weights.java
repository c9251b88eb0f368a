import java.math.BigInteger;

/** The weights that a seed draws, reckoned without int arithmetic, and seeds that draw the weights a test wants. */
final class Weights {
    private static final BigInteger FACTOR = BigInteger.valueOf(1103515245);
    private static final BigInteger SUMMAND = BigInteger.valueOf(12345);
    private static final BigInteger INTS = BigInteger.ONE.shiftLeft(32);
    private static final long SEEDS = 1L << 21;

    private Weights() {
    }

    /** The first weights of a seed. */
    static int[] drawnFrom(int seed, int count) {
        int[] weights = new int[count];
        BigInteger at = BigInteger.valueOf(seed);
        for (int i = 0; i < count; i++) {
            at = at.multiply(FACTOR).add(SUMMAND).mod(INTS);
            weights[i] = at.shiftRight(16).mod(BigInteger.valueOf(16)).intValue();
        }
        return weights;
    }

    /** A seed whose first weights compare with one another as these numbers do. */
    static int seedLike(int... order) {
        for (long seed = 1; seed < SEEDS; seed++) {
            if (isLike(seed, order)) {
                return (int) seed;
            }
        }
        throw new IllegalArgumentException("no seed draws weights in such an order");
    }

    private static boolean isLike(long seed, int[] order) {
        int[] weights = new int[order.length];
        long at = seed;
        for (int i = 0; i < order.length; i++) {
            at = (at * 1103515245L + 12345L) & 0xffffffffL;
            weights[i] = (int) (at / 65536 % 16);
            for (int j = 0; j < i; j++) {
                if (Integer.compare(weights[i], weights[j]) != Integer.compare(order[i], order[j])) {
                    return false;
                }
            }
        }
        return true;
    }

    /**
     * The tree with these keys and weights as Trees.shape tells it. It follows from the keys and weights alone:
     * one node is above another if it goes above all nodes with keys from the one's to the other's.
     */
    static String shapeDue(int[] keys, int[] weights) {
        int[] order = new int[keys.length];
        for (int i = 0; i < keys.length; i++) {
            for (int j = 0; j < keys.length; j++) {
                order[i] += keys[j] < keys[i] ? 1 : 0;
            }
        }
        String[] parts = new String[keys.length];
        for (int i = 0; i < keys.length; i++) {
            int depth = 0;
            for (int j = 0; j < keys.length; j++) {
                depth += j != i && isAbove(j, i, keys, weights) ? 1 : 0;
            }
            parts[order[i]] = keys[i] + ":" + depth;
        }
        return String.join(" ", parts);
    }

    private static boolean isAbove(int upper, int lower, int[] keys, int[] weights) {
        int low = Math.min(keys[upper], keys[lower]);
        int high = Math.max(keys[upper], keys[lower]);
        for (int i = 0; i < keys.length; i++) {
            boolean between = i != upper && keys[i] >= low && keys[i] <= high;
            boolean higher = weights[i] > weights[upper] || weights[i] == weights[upper] && keys[i] < keys[upper];
            if (between && higher) {
                return false;
            }
        }
        return true;
    }
}

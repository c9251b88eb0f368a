/** Grows trees for the tests, and tells in a text what can be asked of an object. */
final class Trees {
    private Trees() {
    }

    /** Puts one key after the other, each with ten times itself as its value: version n has the first n keys. */
    static void grow(TreapVersions x, int... keys) {
        for (int i = 0; i < keys.length; i++) {
            if (x.put(i, keys[i], 10 * keys[i]) != i + 1) {
                throw new IllegalStateException("put(" + i + ", " + keys[i] + ") did not answer " + (i + 1));
            }
        }
    }

    /** A new object of the greatest size with a tree that has weights in the order of the second numbers. */
    static TreapVersions grown(int[] keys, int... order) {
        TreapVersions x = new TreapVersions(40, 8, Weights.seedLike(order));
        grow(x, keys);
        return x;
    }

    static int[] keys(int... keys) {
        return keys;
    }

    /** Every key with its depth, in the order of the keys: there is but one tree for each such text. */
    static String shape(TreapVersions x, int version) {
        StringBuilder text = new StringBuilder();
        for (int i = 0; i < x.size(version); i++) {
            int k = x.keyAt(version, i);
            text.append(i == 0 ? "" : " ").append(k).append(':').append(x.depth(version, k));
        }
        return x.isLive(version) ? text.toString() : "not live";
    }

    /** Every key with its value, in the order of the keys. */
    static String values(TreapVersions x, int version) {
        StringBuilder text = new StringBuilder();
        for (int i = 0; i < x.size(version); i++) {
            int k = x.keyAt(version, i);
            text.append(i == 0 ? "" : " ").append(k).append('=').append(x.get(version, k));
        }
        return x.isLive(version) ? text.toString() : "not live";
    }

    /** All that can be asked of an object with so many handles; the seed alone can't. */
    static String state(TreapVersions x, int handles) {
        return versions(x, handles) + counts(x);
    }

    /** The trees of the first handles, and how many nodes each two of them have in common. */
    static String versions(TreapVersions x, int handles) {
        StringBuilder text = new StringBuilder();
        for (int a = 0; a < handles; a++) {
            text.append(a).append(" [").append(shape(x, a)).append("] [").append(values(x, a)).append("] shares");
            for (int b = 0; b < a; b++) {
                text.append(' ').append(x.shared(a, b));
            }
            text.append("; ");
        }
        return text.toString();
    }

    static String counts(TreapVersions x) {
        return "nodes " + x.nodes() + " used " + x.used() + " sweeps " + x.sweeps();
    }
}

import java.util.NoSuchElementException;

/** Promises 7 to 15: isLive, get, contains, size, floor, keyAt, sum, depth, shared. */
public final class QueryTest {
    private static final Checks checks = new Checks();
    private static final int MIN = Integer.MIN_VALUE;
    private static final int MAX = Integer.MAX_VALUE;

    public static void main(String[] args) {
        versionsThatAreNotLive();
        isLive();
        getAndContains();
        size();
        floor();
        keyAt();
        sum();
        depth();
        shared();
        queriesChangeNothing();
        checks.end();
    }

    /** Seed 5 draws 15, 9, 8, 5: version 4 is 10 above 5 and 20, and 20 above 15; 3 is dropped. */
    private static TreapVersions fourKeys() {
        TreapVersions x = new TreapVersions(40, 6, 5);
        x.put(0, 10, 100);
        x.put(1, 20, 200);
        x.put(2, 15, 150);
        x.put(3, 5, 50);
        x.drop(3);
        return x;
    }

    private static void versionsThatAreNotLive() {
        TreapVersions x = fourKeys();
        for (int version : new int[] {3, 5, 6, 7, 8, -1, MIN, MAX}) {
            String of = " of version " + version;
            checks.due("isLive" + of, x.isLive(version), false);
            checks.dueThrow("get" + of, NoSuchElementException.class, () -> x.get(version, 10));
            checks.due("contains" + of, x.contains(version, 10), false);
            checks.due("size" + of, x.size(version), TreapVersions.BADVER);
            checks.dueThrow("floor" + of, NoSuchElementException.class, () -> x.floor(version, 10));
            checks.dueThrow("keyAt 0" + of, NoSuchElementException.class, () -> x.keyAt(version, 0));
            checks.dueThrow("keyAt -1" + of, NoSuchElementException.class, () -> x.keyAt(version, -1));
            checks.dueThrow("keyAt 99" + of, NoSuchElementException.class, () -> x.keyAt(version, 99));
            checks.due("sum" + of, x.sum(version, MIN, MAX), 0);
            checks.dueThrow("depth" + of, NoSuchElementException.class, () -> x.depth(version, 10));
            checks.due("shared first" + of, x.shared(version, 4), TreapVersions.BADVER);
            checks.due("shared second" + of, x.shared(4, version), TreapVersions.BADVER);
            checks.due("shared both" + of, x.shared(version, version), TreapVersions.BADVER);
        }
    }

    private static void isLive() {
        TreapVersions x = fourKeys();
        for (int version : new int[] {0, 1, 2, 4}) {
            checks.due("isLive(" + version + ")", x.isLive(version), true);
        }
        x.remove(0, 1);
        checks.due("isLive(3) again", x.isLive(3), true);
    }

    private static void getAndContains() {
        TreapVersions x = fourKeys();
        for (int k : new int[] {5, 10, 15, 20}) {
            checks.due("contains(4, " + k + ")", x.contains(4, k), true);
            checks.due("get(4, " + k + ")", x.get(4, k), k * 10);
            checks.due("contains(0, " + k + ")", x.contains(0, k), false);
            checks.dueThrow("get(0, " + k + ")", NoSuchElementException.class, () -> x.get(0, k));
        }
        for (int k : new int[] {4, 6, 9, 11, 14, 16, 21, MIN, MAX, 0, -1}) {
            checks.due("contains(4, " + k + ")", x.contains(4, k), false);
            checks.dueThrow("get(4, " + k + ")", NoSuchElementException.class, () -> x.get(4, k));
        }
        checks.due("contains(2, 15)", x.contains(2, 15), false);
        checks.due("contains(2, 20)", x.contains(2, 20), true);
    }

    private static void size() {
        TreapVersions x = fourKeys();
        checks.due("size(0)", x.size(0), 0);
        checks.due("size(1)", x.size(1), 1);
        checks.due("size(2)", x.size(2), 2);
        checks.due("size(4)", x.size(4), 4);
        x.put(4, 10, 1);
        checks.due("size(3) of the same keys", x.size(3), 4);
    }

    private static void floor() {
        TreapVersions x = fourKeys();
        int[] due = {5, 5, 9, 5, 10, 10, 14, 10, 15, 15, 19, 15, 20, 20, 21, 20, MAX, 20};
        for (int i = 0; i < due.length; i += 2) {
            checks.due("floor(4, " + due[i] + ")", x.floor(4, due[i]), due[i + 1]);
        }
        for (int k : new int[] {4, 0, -5, MIN}) {
            checks.dueThrow("floor(4, " + k + ")", NoSuchElementException.class, () -> x.floor(4, k));
        }
        checks.dueThrow("floor(0, MAX)", NoSuchElementException.class, () -> x.floor(0, MAX));
        x.put(0, MIN, 1);
        checks.due("floor(3, MIN)", x.floor(3, MIN), MIN);
        checks.due("floor(3, -1)", x.floor(3, -1), MIN);
    }

    private static void keyAt() {
        TreapVersions x = fourKeys();
        checks.due("keyAt(4, 0)", x.keyAt(4, 0), 5);
        checks.due("keyAt(4, 1)", x.keyAt(4, 1), 10);
        checks.due("keyAt(4, 2)", x.keyAt(4, 2), 15);
        checks.due("keyAt(4, 3)", x.keyAt(4, 3), 20);
        for (int i : new int[] {4, 5, 40, 41, -1, MIN, MAX}) {
            checks.dueThrow("keyAt(4, " + i + ")", IndexOutOfBoundsException.class, () -> x.keyAt(4, i));
        }
        // A longer tree looked at before must not show through.
        checks.dueThrow("keyAt(1, 1)", IndexOutOfBoundsException.class, () -> x.keyAt(1, 1));
        checks.dueThrow("keyAt(0, 0)", IndexOutOfBoundsException.class, () -> x.keyAt(0, 0));
    }

    private static void sum() {
        TreapVersions x = fourKeys();
        checks.due("sum(4, MIN, MAX)", x.sum(4, MIN, MAX), 500);
        checks.due("sum(4, 5, 20)", x.sum(4, 5, 20), 500);
        checks.due("sum(4, 6, 19)", x.sum(4, 6, 19), 250);
        checks.due("sum(4, 10, 15)", x.sum(4, 10, 15), 250);
        checks.due("sum(4, 15, 15)", x.sum(4, 15, 15), 150);
        checks.due("sum(4, 11, 14)", x.sum(4, 11, 14), 0);
        checks.due("sum(4, 15, 10)", x.sum(4, 15, 10), 0);
        checks.due("sum(4, MAX, MIN)", x.sum(4, MAX, MIN), 0);
        checks.due("sum(0, MIN, MAX)", x.sum(0, MIN, MAX), 0);
        TreapVersions y = new TreapVersions(40, 8, 5);
        y.put(0, MIN, MAX);
        y.put(1, MAX, MAX);
        y.put(2, 0, MAX);
        y.put(0, MIN, MIN);
        y.put(4, MAX, MIN);
        checks.due("sum(3, MIN, MAX) beyond int", y.sum(3, MIN, MAX), 3L * MAX);
        checks.due("sum(5, MIN, MAX) beyond int", y.sum(5, MIN, MAX), 2L * MIN);
        checks.due("sum(3, MIN, MIN)", y.sum(3, MIN, MIN), MAX);
        checks.due("sum(3, MAX, MAX)", y.sum(3, MAX, MAX), MAX);
    }

    private static void depth() {
        TreapVersions x = fourKeys();
        checks.due("depth(4, 10)", x.depth(4, 10), 0);
        checks.due("depth(4, 5)", x.depth(4, 5), 1);
        checks.due("depth(4, 20)", x.depth(4, 20), 1);
        checks.due("depth(4, 15)", x.depth(4, 15), 2);
        for (int k : new int[] {4, 6, 16, 21, MIN, MAX}) {
            checks.dueThrow("depth(4, " + k + ")", NoSuchElementException.class, () -> x.depth(4, k));
        }
        checks.dueThrow("depth(0, 10)", NoSuchElementException.class, () -> x.depth(0, 10));
    }

    private static void shared() {
        TreapVersions x = fourKeys();
        checks.due("shared(4, 4)", x.shared(4, 4), 4);
        checks.due("shared(0, 0)", x.shared(0, 0), 0);
        checks.due("shared(0, 4)", x.shared(0, 4), 0);
        checks.due("shared(4, 0)", x.shared(4, 0), 0);
        checks.due("shared(2, 4), copies being others", x.shared(2, 4), 0);
        x.put(4, 5, 1);
        checks.due("shared(4, 3), which are 20 and 15", x.shared(4, 3), 2);
        checks.due("shared(3, 4)", x.shared(3, 4), 2);
        x.put(0, 10, 100);
        checks.due("shared(1, 5) of the same keys and values", x.shared(1, 5), 0);
    }

    private static void queriesChangeNothing() {
        TreapVersions x = fourKeys();
        x.get(4, 5);
        x.keyAt(4, 3);
        x.floor(4, 7);
        x.sum(4, 0, 30);
        x.depth(4, 15);
        x.shared(1, 4);
        x.nodes();
        checks.dueKeys("asked", x, 4, 5, 10, 15, 20);
        checks.due("asked: used()", x.used(), 8);
        checks.due("asked: sweeps()", x.sweeps(), 0);
        checks.due("asked: nodes()", x.nodes(), 7);
    }
}

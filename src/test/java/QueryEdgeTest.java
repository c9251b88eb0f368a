import java.util.NoSuchElementException;

/**
 * The boundary cases of promises 6 to 15: versions that are not live and no handles at all, the tree that is none,
 * keys that a version has not, and keys, values and sums at the ends of int.
 */
public final class QueryEdgeTest {
    private static final Checks checks = new Checks();
    private static final int BADVER = TreapVersions.BADVER;
    private static final int MIN = Integer.MIN_VALUE;
    private static final int MAX = Integer.MAX_VALUE;

    public static void main(String[] args) {
        versionsThatAreNotLive();
        treesThatAreNone();
        keysThatAreNotThere();
        dropOfEveryKind();
        droppedHandlesStandForOthersLater();
        floorAround();
        floorAtTheEndsOfInt();
        keyAtAround();
        keysAtTheEndsOfInt();
        sumWithinBounds();
        sumWithLowGreaterThanHigh();
        sumBeyondInt();
        valuesAtTheEndsOfInt();
        depthOfRootAndLeaf();
        sharedByCopiesAndByNone();
        theOnlyNodeOfAFullStore();
        afterASweepAndARefusal();
        checks.end();
    }

    private static void dueNoElement(String call, Checks.Call made) {
        checks.dueThrow(call, NoSuchElementException.class, made);
    }

    private static void dueOutOfBounds(TreapVersions x, int version, int i) {
        checks.dueThrow("keyAt(" + version + ", " + i + ")", IndexOutOfBoundsException.class, () -> x.keyAt(version, i));
    }

    /** 10 is the root, with 5 to the left and 20 to the right, which has 15 to the left: version 4. */
    private static TreapVersions fourKeys() {
        return Trees.grown(Trees.keys(10, 20, 15, 5), 4, 3, 2, 1);
    }

    // ---- versions

    private static void dueNotLive(TreapVersions x, int version, int live) {
        String of = " of version " + version;
        checks.due("isLive" + of, x.isLive(version), false);
        checks.due("drop" + of, x.drop(version), false);
        dueNoElement("get" + of, () -> x.get(version, 10));
        checks.due("contains" + of, x.contains(version, 10), false);
        checks.due("size" + of, x.size(version), BADVER);
        dueNoElement("floor" + of, () -> x.floor(version, MAX));
        dueNoElement("keyAt 0" + of, () -> x.keyAt(version, 0));
        dueNoElement("keyAt -1" + of, () -> x.keyAt(version, -1));
        dueNoElement("keyAt MAX" + of, () -> x.keyAt(version, MAX));
        checks.due("sum" + of, x.sum(version, MIN, MAX), 0);
        dueNoElement("depth" + of, () -> x.depth(version, 10));
        checks.due("shared first" + of, x.shared(version, live), BADVER);
        checks.due("shared second" + of, x.shared(live, version), BADVER);
        checks.due("shared both" + of, x.shared(version, version), BADVER);
    }

    private static void versionsThatAreNotLive() {
        TreapVersions x = fourKeys();
        x.drop(2);
        for (int version : new int[] {2, 5, 6, 7, 8, 9, 40, -1, -2, -3, -4, MIN, MAX}) {
            dueNotLive(x, version, 4);
        }
        checks.due("the live ones are asked for still: size(4)", x.size(4), 4);
        for (int versions = 1; versions <= 8; versions++) {
            TreapVersions y = new TreapVersions(9, versions, 1);
            dueNotLive(y, versions, 0);
            dueNotLive(y, versions - 1 == 0 ? -1 : versions - 1, 0);
        }
        TreapVersions z = new TreapVersions(1, 1, 1);
        z.drop(0);
        dueNotLive(z, 0, 0);
    }

    /** The first version, one whose keys are all removed, one below all keys, and none joined with none. */
    private static void treesThatAreNone() {
        TreapVersions x = new TreapVersions(9, 6, 1);
        x.put(0, 10, 1);
        x.remove(1, 10);
        x.below(1, 10);
        x.join(2, 3);
        for (int version : new int[] {0, 2, 3, 4}) {
            checks.due("none: isLive(" + version + ")", x.isLive(version), true);
            checks.due("none: size(" + version + ")", x.size(version), 0);
            for (int k : new int[] {10, 0, -1, MIN, MAX}) {
                checks.due("none: contains", x.contains(version, k), false);
                dueNoElement("none: get(" + version + ", " + k + ")", () -> x.get(version, k));
                dueNoElement("none: floor(" + version + ", " + k + ")", () -> x.floor(version, k));
                dueNoElement("none: depth(" + version + ", " + k + ")", () -> x.depth(version, k));
                dueOutOfBounds(x, version, k);
            }
            checks.due("none: sum", x.sum(version, MIN, MAX), 0);
            checks.due("none: shared with a tree", x.shared(version, 1), 0);
            checks.due("none: shared with itself", x.shared(version, version), 0);
            checks.due("none: shared with none", x.shared(version, 0), 0);
        }
    }

    private static void keysThatAreNotThere() {
        TreapVersions x = fourKeys();
        for (int k : new int[] {4, 6, 9, 11, 14, 16, 19, 21, 0, -5, -10, MIN, MAX}) {
            checks.due("contains(4, " + k + ")", x.contains(4, k), false);
            dueNoElement("get(4, " + k + ")", () -> x.get(4, k));
            dueNoElement("depth(4, " + k + ")", () -> x.depth(4, k));
        }
        // A key that another version has.
        checks.due("contains(3, 5)", x.contains(3, 5), false);
        dueNoElement("get(3, 5)", () -> x.get(3, 5));
        dueNoElement("depth(3, 5)", () -> x.depth(3, 5));
        checks.due("contains(4, 5)", x.contains(4, 5), true);
    }

    /** "The handle is not live any more. False when it is not live (or none)." */
    private static void dropOfEveryKind() {
        TreapVersions x = fourKeys();
        String before = Trees.state(x, 8);
        for (int version : new int[] {5, 7, 8, 100, -1, -2, MIN, MAX}) {
            checks.due("drop(" + version + ")", x.drop(version), false);
        }
        checks.due("nothing was dropped", Trees.state(x, 8), before);
        checks.due("drop(4)", x.drop(4), true);
        checks.due("drop(4) again", x.drop(4), false);
        checks.due("isLive(4)", x.isLive(4), false);
        checks.due("version 3, which shared its nodes", Trees.values(x, 3), "10=100 15=150 20=200");
        checks.due("drop(0), whose tree is none", x.drop(0), true);
        checks.due("drop(0) again", x.drop(0), false);
        checks.due("isLive(0)", x.isLive(0), false);
        checks.due("size(0)", x.size(0), BADVER);
    }

    private static void droppedHandlesStandForOthersLater() {
        TreapVersions x = fourKeys();
        x.drop(4);
        x.drop(0);
        checks.due("below(3, 15)", x.below(3, 15), 0);
        checks.due("what version 0 has", Trees.values(x, 0), "10=100");
        checks.due("remove(3, 10)", x.remove(3, 10), 4);
        checks.due("what version 4 has", Trees.values(x, 4), "15=150 20=200");
        checks.due("drop(4) once more", x.drop(4), true);
        checks.due("isLive(4)", x.isLive(4), false);
    }

    // ---- floor and keyAt

    /** "The greatest key that is not greater than k. NoSuchElementException when there is none" */
    private static void floorAround() {
        TreapVersions x = fourKeys();
        int[] due = {5, 5, 6, 5, 9, 5, 10, 10, 11, 10, 14, 10, 15, 15, 16, 15, 19, 15, 20, 20, 21, 20, MAX, 20};
        for (int i = 0; i < due.length; i += 2) {
            checks.due("floor(4, " + due[i] + ")", x.floor(4, due[i]), due[i + 1]);
        }
        for (int k : new int[] {4, 0, -1, -5, MIN}) {
            dueNoElement("floor(4, " + k + ")", () -> x.floor(4, k));
        }
    }

    private static void floorAtTheEndsOfInt() {
        TreapVersions x = Trees.grown(Trees.keys(0, MIN, MAX), 1, 2, 3);
        int[] due = {MIN, MIN, MIN + 1, MIN, -1, MIN, 0, 0, 1, 0, MAX - 1, 0, MAX, MAX};
        for (int i = 0; i < due.length; i += 2) {
            checks.due("floor(3, " + due[i] + ")", x.floor(3, due[i]), due[i + 1]);
        }
        TreapVersions y = Trees.grown(Trees.keys(MAX), 1);
        dueNoElement("floor(1, MAX - 1)", () -> y.floor(1, MAX - 1));
        dueNoElement("floor(1, MIN)", () -> y.floor(1, MIN));
        checks.due("floor(1, MAX)", y.floor(1, MAX), MAX);
        TreapVersions z = new TreapVersions(9, 3, 1);
        z.put(0, -1, 5);
        checks.due("a key like BADVER: floor(1, 0)", z.floor(1, 0), -1);
        checks.due("a key like BADVER: keyAt(1, 0)", z.keyAt(1, 0), -1);
    }

    /** "The key with i lesser ones ... when i is negative or it has not so many" */
    private static void keyAtAround() {
        TreapVersions x = fourKeys();
        int[] keys = {5, 10, 15, 20};
        for (int i = 0; i < keys.length; i++) {
            checks.due("keyAt(4, " + i + ")", x.keyAt(4, i), keys[i]);
        }
        for (int i : new int[] {-1, -2, MIN, 4, 5, 39, 40, 41, MAX}) {
            dueOutOfBounds(x, 4, i);
        }
        for (int version = 0; version < 4; version++) {
            dueOutOfBounds(x, version, version);
            dueOutOfBounds(x, version, -1);
        }
        checks.due("the last of version 3: keyAt(3, 2)", x.keyAt(3, 2), 20);
        checks.due("the only one of version 1: keyAt(1, 0)", x.keyAt(1, 0), 10);
    }

    private static void keysAtTheEndsOfInt() {
        int[][] orders = {{1, 2, 3, 4}, {4, 3, 2, 1}, {2, 4, 1, 3}, {1, 1, 1, 1}};
        for (int[] order : orders) {
            TreapVersions x = Trees.grown(Trees.keys(MAX, 0, MIN, -1), order);
            int[] keys = {MIN, -1, 0, MAX};
            for (int i = 0; i < keys.length; i++) {
                checks.due("the ends: keyAt(4, " + i + ")", x.keyAt(4, i), keys[i]);
                checks.due("the ends: contains(4, " + keys[i] + ")", x.contains(4, keys[i]), true);
            }
            for (int k : new int[] {MIN + 1, -2, 1, MAX - 1}) {
                checks.due("beside the ends: contains(4, " + k + ")", x.contains(4, k), false);
            }
            dueOutOfBounds(x, 4, 4);
        }
    }

    // ---- sum, values

    /** "all keys from low to high": both of them too. */
    private static void sumWithinBounds() {
        TreapVersions x = fourKeys();
        int[][] due = {{5, 20, 500}, {MIN, MAX, 500}, {6, 20, 450}, {5, 19, 300}, {6, 19, 250}, {10, 15, 250},
            {10, 10, 100}, {9, 9, 0}, {11, 14, 0}, {20, MAX, 200}, {21, MAX, 0}, {MIN, 5, 50}, {MIN, 4, 0},
            {MIN, MIN, 0}, {MAX, MAX, 0}};
        for (int[] row : due) {
            checks.due("sum(4, " + row[0] + ", " + row[1] + ")", x.sum(4, row[0], row[1]), row[2]);
        }
    }

    private static void sumWithLowGreaterThanHigh() {
        TreapVersions x = fourKeys();
        int[][] pairs = {{20, 5}, {11, 10}, {10, 9}, {15, 10}, {MAX, MIN}, {MAX, 0}, {0, MIN}};
        for (int[] pair : pairs) {
            checks.due("sum(4, " + pair[0] + ", " + pair[1] + ")", x.sum(4, pair[0], pair[1]), 0);
        }
    }

    private static void sumBeyondInt() {
        dueGreatSum(MAX, 7L * MAX);
        dueGreatSum(MIN, 7L * MIN);
        TreapVersions x = new TreapVersions(40, 8, 1);
        x.put(0, MIN, MAX);
        x.put(1, MAX, MAX);
        x.put(2, 0, MIN);
        checks.due("all three", x.sum(3, MIN, MAX), 2L * MAX + MIN);
        checks.due("without MAX", x.sum(3, MIN, MAX - 1), -1);
        checks.due("without MIN", x.sum(3, MIN + 1, MAX), -1);
        checks.due("MIN alone", x.sum(3, MIN, MIN), MAX);
        checks.due("MAX alone", x.sum(3, MAX, MAX), MAX);
        checks.due("neither", x.sum(3, MIN + 1, MAX - 1), MIN);
    }

    private static void dueGreatSum(int v, long sum) {
        TreapVersions x = new TreapVersions(40, 8, 1);
        for (int i = 0; i < 7; i++) {
            x.put(i, i, v);
        }
        checks.due("seven times " + v, x.sum(7, 0, 6), sum);
    }

    private static void valuesAtTheEndsOfInt() {
        TreapVersions x = new TreapVersions(40, 8, 1);
        int[] values = {MIN, MAX, 0, -1, -2, -3, -4};
        for (int i = 0; i < values.length; i++) {
            x.put(i, i, values[i]);
        }
        for (int i = 0; i < values.length; i++) {
            checks.due("get(7, " + i + ")", x.get(7, i), values[i]);
            checks.due("contains(7, " + i + ")", x.contains(7, i), true);
        }
    }

    // ---- depth and shared

    private static void depthOfRootAndLeaf() {
        TreapVersions x = fourKeys();
        checks.due("root: depth(4, 10)", x.depth(4, 10), 0);
        checks.due("root alone: depth(1, 10)", x.depth(1, 10), 0);
        checks.due("leaf: depth(4, 5)", x.depth(4, 5), 1);
        checks.due("leaf: depth(4, 15)", x.depth(4, 15), 2);
        TreapVersions chain = Trees.grown(Trees.keys(7, 6, 5, 4, 3), 1, 1, 1, 1, 1);
        checks.due("five of the same weight", Trees.shape(chain, 5), "3:0 4:1 5:2 6:3 7:4");
    }

    private static void sharedByCopiesAndByNone() {
        TreapVersions x = fourKeys();
        for (int version = 0; version <= 4; version++) {
            checks.due("with itself", x.shared(version, version), version);
            checks.due("with none", x.shared(version, 0), 0);
            checks.due("none with it", x.shared(0, version), 0);
        }
        checks.due("20 and 15: shared(3, 4)", x.shared(3, 4), 2);
        checks.due("20 and 15: shared(4, 3)", x.shared(4, 3), 2);
        checks.due("copied: shared(1, 2)", x.shared(1, 2), 0);
        x.put(0, 10, 100);
        checks.due("the same key and value, but another node", x.shared(1, 5), 0);
        x.remove(4, 11);
        checks.due("T itself: shared(4, 6)", x.shared(4, 6), 4);
        x.put(4, 10, 100);
        checks.due("all but the root: shared(4, 7)", x.shared(4, 7), 3);
        checks.due("all but the root: shared(6, 7)", x.shared(6, 7), 3);
    }

    /** A tree that takes every place there is: one place, for a greater store has a copy of some node beside it. */
    private static void theOnlyNodeOfAFullStore() {
        TreapVersions x = new TreapVersions(1, 4, 1);
        x.put(0, 7, 70);
        checks.due("one node: get(1, 7)", x.get(1, 7), 70);
        checks.due("one node: contains(1, 7)", x.contains(1, 7), true);
        checks.due("one node: contains(1, 8)", x.contains(1, 8), false);
        checks.due("one node: size(1)", x.size(1), 1);
        checks.due("one node: floor(1, 7)", x.floor(1, 7), 7);
        checks.due("one node: floor(1, 8)", x.floor(1, 8), 7);
        dueNoElement("one node: floor(1, 6)", () -> x.floor(1, 6));
        checks.due("one node: keyAt(1, 0)", x.keyAt(1, 0), 7);
        dueOutOfBounds(x, 1, 1);
        checks.due("one node: sum(1, 7, 7)", x.sum(1, 7, 7), 70);
        checks.due("one node: depth(1, 7)", x.depth(1, 7), 0);
        checks.due("one node: shared(1, 1)", x.shared(1, 1), 1);
        checks.due("one node: join(1, 1)", x.join(1, 1), TreapVersions.MIXED);
        checks.due("one node: nodes()", x.nodes(), 1);
    }

    /** What is asked for after sweeps and refusals is what it was. */
    private static void afterASweepAndARefusal() {
        TreapVersions x = new TreapVersions(8, 8, Weights.seedLike(4, 3, 2, 1));
        Trees.grow(x, 10, 20, 15);
        x.drop(1);
        x.drop(2);
        String before = Trees.versions(x, 8);
        for (int i = 0; i < 5; i++) {
            x.drop(x.put(3, 15, i));
        }
        checks.due("swept at times", x.sweeps() >= 2, true);
        checks.due("after sweeps", Trees.versions(x, 8), before);
        checks.due("three copies: put(3, 15, 1)", x.put(3, 15, 1), 1);
        checks.due("two copies: put(3, 20, 1)", x.put(3, 20, 1), 2);
        String full = Trees.versions(x, 8);
        checks.due("refused: put(3, 15, 2)", x.put(3, 15, 2), TreapVersions.NOROOM);
        checks.due("after NOROOM", Trees.versions(x, 8), full);
    }
}

import java.util.NoSuchElementException;

/** Promises 2 to 6: put, remove, below, join, drop. What weights are drawn stands beside each seed. */
public final class UpdateTest {
    private static final Checks checks = new Checks();

    public static void main(String[] args) {
        putGoesBelow();
        putGoesAbove();
        putGoesBetween();
        putOfEqualWeights();
        putOfKeyThatIsThere();
        putOfEdgeKeys();
        weightsDrawnOnlyForNewNodes();
        removeOfRoot();
        removeOfOthers();
        removeOfOnlyKey();
        belowCutsAndShares();
        joinByWeight();
        joinWithNone();
        joinOfMixedTrees();
        refusalsInOrder();
        refusedUpdatesChangeNothing();
        leastHandleIsTaken();
        dropEndsHandles();
        checks.end();
    }

    /** Seed 5 draws 15, 9, 8, 5: version 4 is 10 above 5 and 20, and 20 above 15. */
    private static TreapVersions fourKeys() {
        TreapVersions x = new TreapVersions(40, 8, 5);
        checks.due("fourKeys: put 10", x.put(0, 10, 100), 1);
        checks.due("fourKeys: put 20", x.put(1, 20, 200), 2);
        checks.due("fourKeys: put 15", x.put(2, 15, 150), 3);
        checks.due("fourKeys: put 5", x.put(3, 5, 50), 4);
        return x;
    }

    private static void putGoesBelow() {
        TreapVersions x = fourKeys();
        checks.dueKeys("below", x, 0);
        checks.dueKeys("below", x, 1, 10);
        checks.dueKeys("below", x, 2, 10, 20);
        checks.dueKeys("below", x, 3, 10, 15, 20);
        checks.dueKeys("below", x, 4, 5, 10, 15, 20);
        checks.dueDepths("below", x, 4, 10, 0, 5, 1, 20, 1, 15, 2);
        checks.due("below: get(4, 15)", x.get(4, 15), 150);
        checks.due("below: used()", x.used(), 1 + 2 + 3 + 2);
        checks.due("below: shared(3, 4)", x.shared(3, 4), 2);
        checks.due("below: shared(1, 2)", x.shared(1, 2), 0);
    }

    /** Seed 33 draws 0, 1, 9: each new node is the root. */
    private static void putGoesAbove() {
        TreapVersions x = new TreapVersions(40, 8, 33);
        x.put(0, 10, 1);
        x.put(1, 20, 2);
        checks.dueDepths("above", x, 2, 20, 0, 10, 1);
        checks.due("above: put(2, 15, 3)", x.put(2, 15, 3), 3);
        checks.dueKeys("above", x, 3, 10, 15, 20);
        checks.dueDepths("above", x, 3, 15, 0, 10, 1, 20, 1);
        checks.due("above: used()", x.used(), 1 + 2 + 3);
        checks.due("above: shared(2, 3)", x.shared(2, 3), 0);
    }

    /** Seed 27 draws 10, 2, 7, 4, 13: a new node goes into the way, and at last above all of it. */
    private static void putGoesBetween() {
        TreapVersions x = new TreapVersions(40, 8, 27);
        x.put(0, 30, 1);
        x.put(1, 10, 2);
        x.put(2, 20, 3);
        checks.dueDepths("between", x, 3, 30, 0, 20, 1, 10, 2);
        x.put(3, 15, 4);
        checks.dueDepths("between", x, 4, 30, 0, 20, 1, 15, 2, 10, 3);
        checks.due("between: used()", x.used(), 1 + 2 + 3 + 4);
        checks.due("between: put(4, 17, 5)", x.put(4, 17, 5), 5);
        checks.dueKeys("between", x, 5, 10, 15, 17, 20, 30);
        checks.dueDepths("between", x, 5, 17, 0, 15, 1, 10, 2, 30, 1, 20, 2);
        checks.due("between: used()", x.used(), 10 + 4);
        checks.due("between: shared(4, 5), which is the node with 10", x.shared(4, 5), 1);
    }

    /** Seed 3 draws 3, 3. */
    private static void putOfEqualWeights() {
        TreapVersions x = new TreapVersions(40, 8, 3);
        x.put(0, 5, 1);
        x.put(1, 3, 1);
        checks.dueDepths("lesser key goes above", x, 2, 3, 0, 5, 1);
        TreapVersions y = new TreapVersions(40, 8, 3);
        y.put(0, 5, 1);
        y.put(1, 8, 1);
        checks.dueDepths("lesser key stays above", y, 2, 5, 0, 8, 1);
    }

    private static void putOfKeyThatIsThere() {
        TreapVersions x = fourKeys();
        checks.due("there: put(4, 10, 7)", x.put(4, 10, 7), 5);
        checks.due("there: get(5, 10)", x.get(5, 10), 7);
        checks.due("there: get(4, 10)", x.get(4, 10), 100);
        checks.due("there: used() after the root", x.used(), 9);
        checks.due("there: shared(4, 5)", x.shared(4, 5), 3);
        checks.due("there: put(4, 15, 150)", x.put(4, 15, 150), 6);
        checks.due("there: used() after the same value", x.used(), 12);
        checks.due("there: shared(4, 6)", x.shared(4, 6), 1);
        checks.dueDepths("there", x, 6, 10, 0, 5, 1, 20, 1, 15, 2);
        checks.due("there: put(4, 20, -1)", x.put(4, 20, -1), 7);
        checks.due("there: shared(4, 7), which are 5 and 15", x.shared(4, 7), 2);
        checks.dueKeys("there", x, 7, 5, 10, 15, 20);
        TreapVersions y = new TreapVersions(40, 8, 5);
        y.put(0, 10, 1);
        y.put(1, 10, 2);
        y.put(2, 20, 3);
        checks.dueDepths("there, its weight kept", y, 3, 10, 0, 20, 1);
    }

    private static void putOfEdgeKeys() {
        TreapVersions x = new TreapVersions(40, 8, 5);
        x.put(0, Integer.MAX_VALUE, Integer.MIN_VALUE);
        x.put(1, Integer.MIN_VALUE, Integer.MAX_VALUE);
        x.put(2, 0, 0);
        checks.dueKeys("edges", x, 3, Integer.MIN_VALUE, 0, Integer.MAX_VALUE);
        checks.due("edges: get(3, MAX)", x.get(3, Integer.MAX_VALUE), Integer.MIN_VALUE);
        checks.due("edges: get(3, MIN)", x.get(3, Integer.MIN_VALUE), Integer.MAX_VALUE);
        checks.dueDepths("edges", x, 3, Integer.MAX_VALUE, 0, Integer.MIN_VALUE, 1, 0, 2);
    }

    /** Seed 9 draws 8, 3, 15: 20 goes below 10 if it has the second weight, above it with the third. */
    private static void weightsDrawnOnlyForNewNodes() {
        TreapVersions x = new TreapVersions(3, 3, 9);
        checks.due("draws: put(7, 1, 1)", x.put(7, 1, 1), TreapVersions.BADVER);
        x.put(0, 10, 1);
        checks.due("draws: put(1, 10, 2)", x.put(1, 10, 2), 2);
        checks.due("draws: put(1, 20, 1)", x.put(1, 20, 1), TreapVersions.NOHANDLE);
        x.drop(0);
        checks.due("draws: put(1, 20, 1)", x.put(1, 20, 1), TreapVersions.NOROOM);
        x.drop(2);
        checks.due("draws: put(1, 20, 1)", x.put(1, 20, 1), 0);
        checks.dueDepths("draws", x, 0, 10, 0, 20, 1);
    }

    private static void removeOfRoot() {
        TreapVersions x = fourKeys();
        checks.due("root: remove(4, 10)", x.remove(4, 10), 5);
        checks.dueKeys("root", x, 5, 5, 15, 20);
        checks.dueDepths("root", x, 5, 20, 0, 15, 1, 5, 2);
        checks.due("root: used()", x.used(), 8 + 2);
        checks.due("root: shared(4, 5), which is 5", x.shared(4, 5), 1);
        checks.dueKeys("root", x, 4, 5, 10, 15, 20);
    }

    private static void removeOfOthers() {
        TreapVersions x = fourKeys();
        checks.due("leaf: remove(4, 5)", x.remove(4, 5), 5);
        checks.dueKeys("leaf", x, 5, 10, 15, 20);
        checks.due("leaf: used()", x.used(), 8 + 1);
        checks.due("leaf: shared(4, 5)", x.shared(4, 5), 2);
        checks.due("one tree: remove(4, 20)", x.remove(4, 20), 6);
        checks.dueKeys("one tree", x, 6, 5, 10, 15);
        checks.dueDepths("one tree", x, 6, 10, 0, 5, 1, 15, 1);
        checks.due("one tree: used()", x.used(), 9 + 1);
        checks.due("one tree: shared(4, 6)", x.shared(4, 6), 2);
        checks.due("not there: remove(4, 11)", x.remove(4, 11), 7);
        checks.due("not there: used()", x.used(), 10);
        checks.due("not there: shared(4, 7)", x.shared(4, 7), 4);
    }

    private static void removeOfOnlyKey() {
        TreapVersions x = new TreapVersions(1, 4, 5);
        x.put(0, 1, 1);
        checks.due("only: remove(1, 1)", x.remove(1, 1), 2);
        checks.dueKeys("only", x, 2);
        checks.due("only: remove(0, 1)", x.remove(0, 1), 3);
        checks.dueKeys("only", x, 3);
        checks.due("only: used()", x.used(), 1);
        checks.due("only: sweeps()", x.sweeps(), 0);
    }

    private static void belowCutsAndShares() {
        dueBelow(16, 2, 1, 5, 10, 15);
        dueBelow(15, 1, 1, 5, 10);
        dueBelow(11, 1, 1, 5, 10);
        dueBelow(10, 1, 0, 5);
        dueBelow(6, 1, 0, 5);
        dueBelow(5, 0, 0);
        dueBelow(Integer.MIN_VALUE, 0, 0);
        dueBelow(Integer.MAX_VALUE, 2, 2, 5, 10, 15, 20);
        TreapVersions x = fourKeys();
        x.below(4, 16);
        checks.dueDepths("below", x, 5, 10, 0, 5, 1, 15, 1);
        checks.due("below: get(5, 15)", x.get(5, 15), 150);
        TreapVersions y = new TreapVersions(5, 2, 1);
        checks.due("none: below(0, 1)", y.below(0, 1), 1);
        checks.dueKeys("none", y, 1);
    }

    private static void dueBelow(int k, int fresh, int shared, int... keys) {
        TreapVersions x = fourKeys();
        String call = "below(4, " + k + ")";
        checks.due(call, x.below(4, k), 5);
        checks.dueKeys(call, x, 5, keys);
        checks.due(call + ": used()", x.used(), 8 + fresh);
        checks.due(call + ": shared(4, 5)", x.shared(4, 5), shared);
        checks.dueKeys(call, x, 4, 5, 10, 15, 20);
    }

    /** Seeds 5, 33 and 3 draw 15, 9; 0, 1; 3, 3. */
    private static void joinByWeight() {
        dueJoin(5, 5, 1);
        dueJoin(33, 8, 0);
        dueJoin(3, 5, 1);
        TreapVersions x = fourKeys();
        x.below(4, 15);
        x.drop(1);
        x.put(0, 30, 300);
        checks.due("longer: join(4, 1)", x.join(4, 1), 6);
        checks.dueKeys("longer", x, 6, 5, 10, 15, 20, 30);
        checks.due("longer: get(6, 30)", x.get(6, 30), 300);
    }

    /** Joins 5 and 8 of their own versions: the root is copied, the other node is in both trees. */
    private static void dueJoin(int seed, int root, int sharedWithGreater) {
        TreapVersions x = new TreapVersions(40, 8, seed);
        x.put(0, 5, 1);
        x.put(0, 8, 2);
        String what = "seed " + seed + ": join(1, 2)";
        checks.due(what, x.join(1, 2), 3);
        checks.dueKeys(what, x, 3, 5, 8);
        checks.due(what + ": depth(3, root)", x.depth(3, root), 0);
        checks.due(what + ": used()", x.used(), 3);
        checks.due(what + ": shared(2, 3)", x.shared(2, 3), sharedWithGreater);
        checks.due(what + ": shared(1, 3)", x.shared(1, 3), 1 - sharedWithGreater);
    }

    private static void joinWithNone() {
        TreapVersions x = fourKeys();
        checks.due("join(0, 4)", x.join(0, 4), 5);
        checks.due("join(4, 0)", x.join(4, 0), 6);
        checks.due("join(0, 0)", x.join(0, 0), 7);
        checks.due("with none: shared(4, 5)", x.shared(4, 5), 4);
        checks.due("with none: shared(4, 6)", x.shared(4, 6), 4);
        checks.due("with none: used()", x.used(), 8);
        checks.dueKeys("with none", x, 7);
    }

    private static void joinOfMixedTrees() {
        TreapVersions x = new TreapVersions(40, 8, 5);
        x.put(0, 5, 1);
        x.put(0, 8, 2);
        x.put(1, 8, 3);
        x.put(1, 9, 3);
        checks.due("greater first: join(2, 1)", x.join(2, 1), TreapVersions.MIXED);
        checks.due("the same: join(1, 1)", x.join(1, 1), TreapVersions.MIXED);
        checks.due("a key in both: join(3, 2)", x.join(3, 2), TreapVersions.MIXED);
        checks.due("a key in both: join(1, 3)", x.join(1, 3), TreapVersions.MIXED);
        checks.due("one into another: join(4, 2)", x.join(4, 2), TreapVersions.MIXED);
        checks.due("mixed: used()", x.used(), 6);
        checks.due("mixed: isLive(5)", x.isLive(5), false);
        checks.due("as said: join(1, 2)", x.join(1, 2), 5);
    }

    private static void refusalsInOrder() {
        TreapVersions x = new TreapVersions(1, 2, 5);
        checks.due("put(0, 1, 1)", x.put(0, 1, 1), 1);
        for (int version : new int[] {2, -1, 8, Integer.MIN_VALUE, Integer.MAX_VALUE}) {
            checks.due("bad: put", x.put(version, 2, 2), TreapVersions.BADVER);
            checks.due("bad: remove", x.remove(version, 2), TreapVersions.BADVER);
            checks.due("bad: below", x.below(version, 2), TreapVersions.BADVER);
            checks.due("bad: join", x.join(version, 1), TreapVersions.BADVER);
            checks.due("bad: join", x.join(1, version), TreapVersions.BADVER);
            checks.due("bad: join", x.join(version, version), TreapVersions.BADVER);
        }
        checks.due("mixed: join(1, 1)", x.join(1, 1), TreapVersions.MIXED);
        checks.due("no handle: put(1, 2, 2)", x.put(1, 2, 2), TreapVersions.NOHANDLE);
        checks.due("no handle: put(1, 1, 2)", x.put(1, 1, 2), TreapVersions.NOHANDLE);
        checks.due("no handle: remove(1, 7)", x.remove(1, 7), TreapVersions.NOHANDLE);
        checks.due("no handle: below(1, 2)", x.below(1, 2), TreapVersions.NOHANDLE);
        checks.due("no handle: join(0, 1)", x.join(0, 1), TreapVersions.NOHANDLE);
        checks.due("refused without a sweep: sweeps()", x.sweeps(), 0);
        x.drop(0);
        checks.due("no room: put(1, 2, 2)", x.put(1, 2, 2), TreapVersions.NOROOM);
        checks.due("no room: put(1, 1, 2)", x.put(1, 1, 2), TreapVersions.NOROOM);
        checks.due("no room: below(1, 2)", x.below(1, 2), TreapVersions.NOROOM);
        checks.due("room enough: remove(1, 7)", x.remove(1, 7), 0);
    }

    /** Room 4 is full of the versions 1 (5), 2 (8) and 3 (5 above 8). */
    private static void refusedUpdatesChangeNothing() {
        TreapVersions x = new TreapVersions(4, 5, 5);
        x.put(0, 5, 1);
        x.put(0, 8, 2);
        x.put(1, 8, 3);
        checks.due("full: used()", x.used(), 4);
        checks.due("full: put(3, 8, 9)", x.put(3, 8, 9), TreapVersions.NOROOM);
        checks.due("full: remove(3, 8)", x.remove(3, 8), TreapVersions.NOROOM);
        checks.due("full: join(1, 2)", x.join(1, 2), TreapVersions.NOROOM);
        checks.due("full: below(3, 6)", x.below(3, 6), TreapVersions.NOROOM);
        checks.due("full: remove(3, 5)", x.remove(3, 5), 4);
        checks.dueKeys("full", x, 1, 5);
        checks.dueKeys("full", x, 2, 8);
        checks.dueKeys("full", x, 3, 5, 8);
        checks.dueKeys("full", x, 4, 8);
        checks.due("full: get(3, 8)", x.get(3, 8), 3);
        checks.due("full: nodes()", x.nodes(), 4);
        checks.due("full: sweeps()", x.sweeps(), 4);
    }

    private static void leastHandleIsTaken() {
        TreapVersions x = new TreapVersions(5, 4, 5);
        for (int handle = 1; handle < 4; handle++) {
            checks.due("least: remove(0, 1)", x.remove(0, 1), handle);
        }
        x.drop(3);
        x.drop(1);
        x.drop(0);
        checks.due("least: put(2, 1, 1)", x.put(2, 1, 1), 0);
        checks.due("least: below(2, 1)", x.below(2, 1), 1);
        checks.due("least: join(1, 0)", x.join(1, 0), 3);
        checks.due("least: join(1, 0)", x.join(1, 0), TreapVersions.NOHANDLE);
        checks.dueKeys("least", x, 0, 1);
    }

    private static void dropEndsHandles() {
        TreapVersions x = fourKeys();
        for (int version : new int[] {-1, 5, 7, 8, 100, Integer.MIN_VALUE, Integer.MAX_VALUE}) {
            checks.due("drop(" + version + ")", x.drop(version), false);
        }
        checks.due("drop(2)", x.drop(2), true);
        checks.due("drop(2)", x.drop(2), false);
        checks.due("dropped: isLive(2)", x.isLive(2), false);
        checks.due("dropped: size(2)", x.size(2), TreapVersions.BADVER);
        checks.dueThrow("dropped: get(2, 10)", NoSuchElementException.class, () -> x.get(2, 10));
        checks.dueKeys("dropped", x, 3, 10, 15, 20);
        checks.due("dropped: used()", x.used(), 8);
        for (int version : new int[] {0, 1, 3, 4}) {
            checks.due("drop(" + version + ")", x.drop(version), true);
        }
        checks.due("all dropped: nodes()", x.nodes(), 0);
        checks.due("all dropped: put(0, 1, 1)", x.put(0, 1, 1), TreapVersions.BADVER);
        checks.due("all dropped: join(0, 0)", x.join(0, 0), TreapVersions.BADVER);
        checks.due("all dropped: drop(0)", x.drop(0), false);
        checks.due("all dropped: used()", x.used(), 8);
    }
}

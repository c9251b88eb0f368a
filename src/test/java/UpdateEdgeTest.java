import java.util.Random;

/**
 * The boundary cases under "Terms" of what updates make: the draw, what goes above, PUT, REMOVE, THE JOINT, BELOW
 * and JOIN (promises 2 to 5). The numbers behind the keys of a tree tell in which order its weights are.
 */
public final class UpdateEdgeTest {
    private static final Checks checks = new Checks();
    private static final int MIN = Integer.MIN_VALUE;
    private static final int MAX = Integer.MAX_VALUE;

    public static void main(String[] args) {
        theDrawWraps();
        theDrawOfKnownSeeds();
        greaterWeightGoesAbove();
        sameWeightsGoByKey();
        putWhereTheTreeHasTheKey();
        putOnNone();
        putUntilThereIsNone();
        putAboveAllOrNone();
        putSplitsWithNoneAtTheEnds();
        removeOfKeyThatItHasNot();
        removeOfTheRoot();
        removeUnderOthers();
        jointOfTreesOrNone();
        jointGoesToAndFro();
        belowKeyThatItHas();
        belowAllOrNone();
        belowEndsWithNone();
        joinWithNone();
        joinOfNeighbours();
        joinOfMixedTrees();
        othersStayAsTheyAre();
        checks.end();
    }

    private static void dueTree(String what, TreapVersions x, int version, String shape) {
        checks.due(what + ": version " + version + " is", Trees.shape(x, version), shape);
    }

    private static void dueFresh(String what, TreapVersions x, int usedBefore, int fresh) {
        checks.due(what + ": fresh nodes", x.used() - usedBefore, fresh);
    }

    // ---- the seed

    /** "it becomes itself times 1103515245 plus 12345 (it wraps), and the weight is the number in its bits 16 .. 19" */
    private static void theDrawWraps() {
        Random random = new Random(1);
        int[] keys = {1, 2, 3, 4, 5, 6, 7};
        for (int i = 0; i < 400; i++) {
            int seed = i < 200 ? (i - 100) * 32768 : random.nextInt();
            TreapVersions x = new TreapVersions(40, 8, seed);
            Trees.grow(x, keys);
            dueTree("seed " + seed, x, 7, Weights.shapeDue(keys, Weights.drawnFrom(seed, keys.length)));
        }
    }

    /** Seeds at the ends of int: 0 and MIN draw 0, 12, 4, 5; -1 and MAX draw 9, 9, 6, 14. */
    private static void theDrawOfKnownSeeds() {
        for (int seed : new int[] {0, MIN}) {
            TreapVersions x = new TreapVersions(40, 8, seed);
            Trees.grow(x, 1, 2, 3, 4);
            dueTree("seed " + seed, x, 4, "1:1 2:0 3:2 4:1");
        }
        for (int seed : new int[] {-1, MAX}) {
            TreapVersions x = new TreapVersions(40, 8, seed);
            Trees.grow(x, 1, 2, 3, 4);
            dueTree("seed " + seed, x, 4, "1:1 2:2 3:3 4:0");
        }
    }

    // ---- goes above

    /** "x GOES ABOVE y when its weight is greater": whatever the keys are. */
    private static void greaterWeightGoesAbove() {
        dueTree("greater later", Trees.grown(Trees.keys(1, 2), 1, 2), 2, "1:1 2:0");
        dueTree("greater later", Trees.grown(Trees.keys(2, 1), 1, 2), 2, "1:0 2:1");
        dueTree("greater first", Trees.grown(Trees.keys(1, 2), 2, 1), 2, "1:0 2:1");
        dueTree("greater first", Trees.grown(Trees.keys(2, 1), 2, 1), 2, "1:1 2:0");
    }

    /** "or the weights are the same and its key is less" */
    private static void sameWeightsGoByKey() {
        int[][] orders = {{1, 2, 3}, {1, 3, 2}, {2, 1, 3}, {2, 3, 1}, {3, 1, 2}, {3, 2, 1}};
        for (int[] order : orders) {
            dueTree("the same three times", Trees.grown(order, 1, 1, 1), 3, "1:0 2:1 3:2");
        }
        dueTree("the ends of int", Trees.grown(Trees.keys(MAX, MIN), 1, 1), 2, MIN + ":0 " + MAX + ":1");
        dueTree("the ends of int", Trees.grown(Trees.keys(MIN, MAX), 1, 1), 2, MIN + ":0 " + MAX + ":1");
        dueTree("lesser than a negative key", Trees.grown(Trees.keys(-1, -2), 1, 1), 2, "-2:0 -1:1");
        TreapVersions x = Trees.grown(Trees.keys(10, 4, 20), 5, 2, 2);
        checks.due("the joint of the same: remove(3, 10)", x.remove(3, 10), 4);
        dueTree("the joint of the same", x, 4, "4:0 20:1");
    }

    // ---- PUT

    /** 10 is the root, with 5 to the left and 20 to the right, which has 15 to the left. */
    private static TreapVersions fourKeys() {
        return Trees.grown(Trees.keys(10, 20, 15, 5), 4, 3, 2, 1);
    }

    private static final String FOUR = "5:1 10:0 15:2 20:1";

    /** "the nodes from the root of T to that with k are copied, the last with the value v and the trees that it has" */
    private static void putWhereTheTreeHasTheKey() {
        duePutOver(10, 1, "5=50 10=7 15=150 20=200");
        duePutOver(5, 2, "5=7 10=100 15=150 20=200");
        duePutOver(20, 2, "5=50 10=100 15=150 20=7");
        duePutOver(15, 3, "5=50 10=100 15=7 20=200");
        TreapVersions x = new TreapVersions(3, 3, 1);
        Trees.grow(x, 1);
        checks.due("the only key: put(1, 1, 10)", x.put(1, 1, 10), 2);
        checks.due("the only key, its value the same: shared(1, 2)", x.shared(1, 2), 0);
        checks.due("the only key: used()", x.used(), 2);
    }

    private static void duePutOver(int k, int fresh, String values) {
        TreapVersions x = fourKeys();
        String what = "put(4, " + k + ", 7)";
        int used = x.used();
        checks.due(what, x.put(4, k, 7), 5);
        dueTree(what, x, 5, FOUR);
        checks.due(what + ": its values are", Trees.values(x, 5), values);
        dueFresh(what, x, used, fresh);
        checks.due(what + ": shared(4, 5)", x.shared(4, 5), 4 - fresh);
        checks.due(what + ": the old values are", Trees.values(x, 4), "5=50 10=100 15=150 20=200");
    }

    private static void putOnNone() {
        for (int k : new int[] {0, -1, MIN, MAX}) {
            TreapVersions x = new TreapVersions(1, 2, 1);
            checks.due("on none: put(0, " + k + ", 3)", x.put(0, k, 3), 1);
            dueTree("on none", x, 1, k + ":0");
            checks.due("on none: get(1, " + k + ")", x.get(1, k), 3);
            checks.due("on none: used()", x.used(), 1);
            checks.due("on none: size(0)", x.size(0), 0);
        }
    }

    /** "The WAY goes from the root ... until there is none": the new node goes above none of it. */
    private static void putUntilThereIsNone() {
        duePutUnder(1, 3, "1:2 5:1 10:0 15:2 20:1");
        duePutUnder(7, 3, "5:1 7:2 10:0 15:2 20:1");
        duePutUnder(12, 4, "5:1 10:0 12:3 15:2 20:1");
        duePutUnder(17, 4, "5:1 10:0 15:2 17:3 20:1");
        duePutUnder(25, 3, "5:1 10:0 15:2 20:1 25:2");
        duePutUnder(MIN, 3, MIN + ":2 5:1 10:0 15:2 20:1");
        duePutUnder(MAX, 3, "5:1 10:0 15:2 20:1 " + MAX + ":2");
    }

    private static void duePutUnder(int k, int fresh, String shape) {
        TreapVersions x = Trees.grown(Trees.keys(10, 20, 15, 5), 4, 3, 2, 1, 0);
        String what = "under all: put(4, " + k + ", 7)";
        int used = x.used();
        checks.due(what, x.put(4, k, 7), 5);
        dueTree(what, x, 5, shape);
        dueFresh(what, x, used, fresh);
        checks.due(what + ": shared(4, 5)", x.shared(4, 5), 4 - (fresh - 1));
        checks.due(what + ": get(5, " + k + ")", x.get(5, k), 7);
    }

    /** "the first being the new node's left tree, or none; those with greater keys likewise": above all of the way. */
    private static void putAboveAllOrNone() {
        duePutAbove(1, 3, "1:0 5:2 10:1 15:3 20:2", 2);
        duePutAbove(7, 3, "5:1 7:0 10:1 15:3 20:2", 2);
        duePutAbove(12, 4, "5:2 10:1 12:0 15:2 20:1", 1);
        duePutAbove(17, 4, "5:2 10:1 15:2 17:0 20:1", 1);
        duePutAbove(25, 3, "5:2 10:1 15:3 20:2 25:0", 2);
    }

    private static void duePutAbove(int k, int fresh, String shape, int shared) {
        TreapVersions x = Trees.grown(Trees.keys(10, 20, 15, 5), 4, 3, 2, 1, 5);
        String what = "above all: put(4, " + k + ", 7)";
        int used = x.used();
        checks.due(what, x.put(4, k, 7), 5);
        dueTree(what, x, 5, shape);
        dueFresh(what, x, used, fresh);
        checks.due(what + ": shared(4, 5)", x.shared(4, 5), shared);
        dueTree(what, x, 4, FOUR);
    }

    /**
     * "each with the copy of the next one of these (the last with none)": the way of 17 is 10, 20, 15, 18, by turns
     * lesser and greater, and 15 and 18, the last of each, have had trees where there is none now.
     */
    private static void putSplitsWithNoneAtTheEnds() {
        duePutBetween(9, "10:1 15:2 17:0 18:2 20:1");
        duePutBetween(7, "10:0 15:2 17:1 18:3 20:2");
        duePutBetween(5, "10:0 15:3 17:2 18:3 20:1");
        duePutBetween(3, "10:0 15:2 17:3 18:4 20:1");
        duePutBetween(1, "10:0 15:2 17:4 18:3 20:1");
    }

    private static void duePutBetween(int order, String shape) {
        TreapVersions x = Trees.grown(Trees.keys(10, 20, 15, 18), 8, 6, 4, 2, order);
        String what = "by turns: put(4, 17, 7) at " + order;
        dueTree(what, x, 4, "10:0 15:2 18:3 20:1");
        int used = x.used();
        checks.due(what, x.put(4, 17, 7), 5);
        dueTree(what, x, 5, shape);
        dueFresh(what, x, used, 5);
        checks.due(what + ": shared(4, 5)", x.shared(4, 5), 0);
        dueTree(what, x, 4, "10:0 15:2 18:3 20:1");
    }

    // ---- REMOVE

    /** "If T has k not: T itself." */
    private static void removeOfKeyThatItHasNot() {
        for (int k : new int[] {4, 6, 9, 11, 14, 16, 19, 21, 0, MIN, MAX}) {
            TreapVersions x = fourKeys();
            String what = "remove(4, " + k + ")";
            int used = x.used();
            checks.due(what, x.remove(4, k), 5);
            dueTree(what, x, 5, FOUR);
            dueFresh(what, x, used, 0);
            checks.due(what + ": shared(4, 5)", x.shared(4, 5), 4);
        }
        TreapVersions x = new TreapVersions(1, 2, 1);
        checks.due("of none: remove(0, 0)", x.remove(0, 0), 1);
        dueTree("of none", x, 1, "");
        checks.due("of none: used()", x.used(), 0);
    }

    /** "when it is the root, the joint is the tree" */
    private static void removeOfTheRoot() {
        dueRemove("a root alone", Trees.grown(Trees.keys(10), 1), 1, 10, 0, "", 0);
        dueRemove("a root with a left tree", Trees.grown(Trees.keys(10, 5, 7), 3, 2, 1), 3, 10, 0, "5:0 7:1", 2);
        dueRemove("a root with a right tree", Trees.grown(Trees.keys(10, 20, 15), 3, 2, 1), 3, 10, 0, "15:1 20:0", 2);
        dueRemove("a root with both", Trees.grown(Trees.keys(10, 20, 5), 3, 2, 1), 3, 10, 1, "5:1 20:0", 1);
        dueRemove("a root with both", Trees.grown(Trees.keys(10, 5, 20), 3, 2, 1), 3, 10, 1, "5:0 20:1", 1);
    }

    /** "each with the copy of the next, the last with the JOINT ... in place of the next" */
    private static void removeUnderOthers() {
        dueRemove("a leaf to the left", fourKeys(), 4, 5, 1, "10:0 15:2 20:1", 2);
        dueRemove("a leaf two levels down", fourKeys(), 4, 15, 2, "5:1 10:0 20:1", 1);
        dueRemove("with a left tree", fourKeys(), 4, 20, 1, "5:1 10:0 15:1", 2);
        TreapVersions right = Trees.grown(Trees.keys(30, 10, 20), 3, 2, 1);
        dueRemove("with a right tree", right, 3, 10, 1, "20:1 30:0", 1);
        TreapVersions both = Trees.grown(Trees.keys(30, 10, 20, 5), 4, 3, 2, 1);
        dueRemove("with both", both, 4, 10, 2, "5:2 20:1 30:0", 1);
    }

    private static void dueRemove(String what, TreapVersions x, int from, int k, int fresh, String shape, int shared) {
        String before = Trees.shape(x, from);
        int used = x.used();
        checks.due(what + ": remove", x.remove(from, k), from + 1);
        dueTree(what, x, from + 1, shape);
        dueFresh(what, x, used, fresh);
        checks.due(what + ": shared with the old one", x.shared(from, from + 1), shared);
        dueTree(what, x, from, before);
        checks.due(what + ": has the key", x.contains(from + 1, k), false);
    }

    // ---- THE JOINT

    /** "when one of them is none, the other": the joint of trees under a node, and in JOIN below. */
    private static void jointOfTreesOrNone() {
        TreapVersions x = Trees.grown(Trees.keys(10, 5, 20), 1, 2, 3);
        dueTree("a chain", x, 3, "5:1 10:2 20:0");
        dueRemove("none and none", x, 3, 10, 2, "5:1 20:0", 0);
        TreapVersions y = Trees.grown(Trees.keys(10, 5, 20), 2, 1, 3);
        dueRemove("a tree and none", y, 3, 10, 1, "5:1 20:0", 1);
        TreapVersions z = Trees.grown(Trees.keys(10, 15, 20), 2, 1, 3);
        dueRemove("none and a tree", z, 3, 10, 1, "15:1 20:0", 1);
    }

    /** "a copy of l's root with the joint of its right tree and r ...; if not, a copy of r's root with the joint ..." */
    private static void jointGoesToAndFro() {
        TreapVersions x = Trees.grown(Trees.keys(50, 20, 80, 40, 60, 10), 9, 8, 7, 4, 6, 1);
        dueTree("to and fro", x, 6, "10:2 20:1 40:2 50:0 60:2 80:1");
        dueRemove("to and fro", x, 6, 50, 3, "10:1 20:0 40:3 60:2 80:1", 2);
        TreapVersions y = Trees.grown(Trees.keys(50, 20, 80, 40, 60, 90), 9, 7, 8, 6, 4, 1);
        dueTree("fro and to", y, 6, "20:1 40:2 50:0 60:2 80:1 90:2");
        dueRemove("fro and to", y, 6, 50, 3, "20:1 40:2 60:3 80:0 90:1", 2);
        TreapVersions z = Trees.grown(Trees.keys(50, 20, 80, 40, 60), 9, 5, 5, 5, 5);
        dueTree("the same weights", z, 5, "20:1 40:2 50:0 60:1 80:2");
        dueRemove("the same weights: l first, all of it", z, 5, 50, 2, "20:0 40:1 60:2 80:3", 2);
    }

    // ---- BELOW

    /** "from a node with a key less than k to the right, else (also from k) to the left" */
    private static void belowKeyThatItHas() {
        TreapVersions x = Trees.grown(Trees.keys(10, 20, 15, 12, 17), 5, 4, 3, 2, 1);
        dueTree("below 15", x, 5, "10:0 12:3 15:2 17:3 20:1");
        int used = x.used();
        checks.due("below(5, 15)", x.below(5, 15), 6);
        dueTree("below 15", x, 6, "10:0 12:1");
        dueFresh("below 15", x, used, 2);
        checks.due("below(5, 10)", x.below(5, 10), 7);
        dueTree("below 10", x, 7, "");
        dueFresh("below 10", x, used, 2);
        TreapVersions y = fourKeys();
        int before = y.used();
        checks.due("the root with a left tree: below(4, 10)", y.below(4, 10), 5);
        dueTree("the root with a left tree", y, 5, "5:0");
        dueFresh("the root with a left tree", y, before, 1);
        checks.due("the node with 5 is copied: shared(4, 5)", y.shared(4, 5), 0);
    }

    /** "the first one is the tree, or none" */
    private static void belowAllOrNone() {
        dueBelow(21, "5:1 10:0 15:2 20:1", 2, 2);
        dueBelow(MAX, "5:1 10:0 15:2 20:1", 2, 2);
        dueBelow(20, "5:1 10:0 15:1", 2, 1);
        dueBelow(6, "5:0", 1, 0);
        dueBelow(5, "", 0, 0);
        dueBelow(4, "", 0, 0);
        dueBelow(MIN, "", 0, 0);
        TreapVersions x = Trees.grown(Trees.keys(MIN, MAX), 1, 2);
        checks.due("below(2, MIN)", x.below(2, MIN), 3);
        dueTree("below MIN", x, 3, "");
        checks.due("below(2, MIN + 1)", x.below(2, MIN + 1), 4);
        dueTree("below MIN + 1", x, 4, MIN + ":0");
        checks.due("below(2, MAX)", x.below(2, MAX), 5);
        dueTree("below MAX", x, 5, MIN + ":0");
        checks.due("of none: below(0, MAX)", x.below(0, MAX), 6);
        dueTree("below, of none", x, 6, "");
    }

    private static void dueBelow(int k, String shape, int fresh, int shared) {
        TreapVersions x = fourKeys();
        String what = "below(4, " + k + ")";
        int used = x.used();
        checks.due(what, x.below(4, k), 5);
        dueTree(what, x, 5, shape);
        dueFresh(what, x, used, fresh);
        checks.due(what + ": shared(4, 5)", x.shared(4, 5), shared);
        dueTree(what, x, 4, FOUR);
    }

    /** "each with the copy of the next one of these (the last with none) as its right tree" */
    private static void belowEndsWithNone() {
        TreapVersions x = Trees.grown(Trees.keys(10, 20, 15, 18, 5), 9, 7, 5, 3, 1);
        dueTree("by turns", x, 5, "5:1 10:0 15:2 18:3 20:1");
        int used = x.used();
        checks.due("by turns: below(5, 17)", x.below(5, 17), 6);
        dueTree("by turns", x, 6, "5:1 10:0 15:1");
        dueFresh("by turns", x, used, 2);
        checks.due("by turns, 5 not being on the way: shared(5, 6)", x.shared(5, 6), 1);
        checks.due("by turns: its values are", Trees.values(x, 6), "5=50 10=100 15=150");
    }

    // ---- JOIN

    private static void joinWithNone() {
        TreapVersions x = fourKeys();
        int used = x.used();
        checks.due("none and a tree: join(0, 4)", x.join(0, 4), 5);
        checks.due("a tree and none: join(4, 0)", x.join(4, 0), 6);
        checks.due("none and none: join(0, 0)", x.join(0, 0), 7);
        dueTree("none and a tree", x, 5, FOUR);
        dueTree("a tree and none", x, 6, FOUR);
        dueTree("none and none", x, 7, "");
        checks.due("none and a tree: shared(4, 5)", x.shared(4, 5), 4);
        checks.due("a tree and none: shared(4, 6)", x.shared(4, 6), 4);
        dueFresh("join with none", x, used, 0);
    }

    /** "all keys of T being less than all of U": by one is enough, the same is not. */
    private static void joinOfNeighbours() {
        int[] keys = {MIN, -2, -1, 0, 7, MAX - 1};
        for (int k : keys) {
            dueJoinOfTwo(k, k + 1, 2, 1, k + ":0 " + (k + 1) + ":1");
            dueJoinOfTwo(k, k + 1, 1, 2, k + ":1 " + (k + 1) + ":0");
            dueJoinOfTwo(k, k + 1, 1, 1, k + ":0 " + (k + 1) + ":1");
        }
        dueJoinOfTwo(MIN, MAX, 1, 1, MIN + ":0 " + MAX + ":1");
        dueJoinOfTwo(MIN, MAX, 1, 2, MIN + ":1 " + MAX + ":0");
    }

    private static void dueJoinOfTwo(int low, int high, int lowOrder, int highOrder, String shape) {
        TreapVersions x = new TreapVersions(3, 5, Weights.seedLike(lowOrder, highOrder));
        x.put(0, low, 1);
        x.put(0, high, 2);
        String what = "join of " + low + " and " + high;
        checks.due(what + " the other way round", x.join(2, 1), TreapVersions.MIXED);
        checks.due(what, x.join(1, 2), 3);
        dueTree(what, x, 3, shape);
        checks.due(what + ": used()", x.used(), 3);
        boolean lowIsCopied = lowOrder >= highOrder;
        checks.due(what + ": shared(1, 3)", x.shared(1, 3), lowIsCopied ? 0 : 1);
        checks.due(what + ": shared(2, 3)", x.shared(2, 3), lowIsCopied ? 1 : 0);
    }

    /** MIXED "when trees to be joined are not as said": by one key of many, wherever it stands. */
    private static void joinOfMixedTrees() {
        dueMixed(Trees.keys(10, 20), Trees.keys(30, 20));
        dueMixed(Trees.keys(20, 10), Trees.keys(20, 30));
        dueMixed(Trees.keys(10, 20), Trees.keys(30, 15));
        dueMixed(Trees.keys(10, 31), Trees.keys(40, 30));
        dueMixed(Trees.keys(10, 50), Trees.keys(30, 40));
        dueMixed(Trees.keys(20, 30), Trees.keys(40, 10));
        dueMixed(Trees.keys(30, 40), Trees.keys(10, 20));
        dueMixed(Trees.keys(10, 20), Trees.keys(10, 20));
        dueMixed(Trees.keys(1, MAX), Trees.keys(3, MAX));
        dueMixed(Trees.keys(1, MIN), Trees.keys(3, MIN));
        dueMixed(Trees.keys(MIN, MAX), Trees.keys(0, 1));
        TreapVersions x = fourKeys();
        for (int version = 1; version <= 4; version++) {
            checks.due("a tree with itself", x.join(version, version), TreapVersions.MIXED);
        }
        checks.due("a tree with itself that is none", x.join(0, 0), 5);
    }

    /** Two trees of two keys each, the weights in every order. */
    private static void dueMixed(int[] lesser, int[] greater) {
        int[][] orders = {{4, 3, 2, 1}, {3, 4, 2, 1}, {4, 3, 1, 2}, {3, 4, 1, 2}, {1, 2, 3, 4}, {1, 1, 1, 1}};
        for (int[] order : orders) {
            TreapVersions x = new TreapVersions(40, 6, Weights.seedLike(order));
            x.put(0, lesser[0], 1);
            x.put(1, lesser[1], 2);
            x.put(0, greater[0], 3);
            x.put(3, greater[1], 4);
            String before = Trees.state(x, 6);
            checks.due("join of " + before, x.join(2, 4), TreapVersions.MIXED);
            checks.due("after MIXED", Trees.state(x, 6), before);
        }
    }

    // ---- all of them

    /** "Nodes never change": an update leaves every other version as it is. */
    private static void othersStayAsTheyAre() {
        TreapVersions x = Trees.grown(Trees.keys(10, 20, 15, 5), 4, 3, 2, 1, 5);
        String before = fiveVersions(x);
        x.put(4, 12, 1);
        checks.due("after put", fiveVersions(x), before);
        x.drop(5);
        x.put(4, 15, 1);
        checks.due("after put over", fiveVersions(x), before);
        x.drop(5);
        x.remove(4, 10);
        checks.due("after remove", fiveVersions(x), before);
        x.drop(5);
        x.below(4, 16);
        checks.due("after below", fiveVersions(x), before);
        x.put(0, 30, 1);
        x.join(5, 6);
        checks.due("after join", fiveVersions(x), before);
    }

    private static String fiveVersions(TreapVersions x) {
        StringBuilder text = new StringBuilder();
        for (int version = 0; version < 5; version++) {
            text.append(Trees.shape(x, version)).append(" / ").append(Trees.values(x, version)).append("; ");
        }
        return text.toString();
    }
}

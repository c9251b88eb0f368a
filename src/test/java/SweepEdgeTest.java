/**
 * "THE STORE has C places ... When an update would use more than C, the store is SWEPT first", and the counts of it
 * (promises 16 to 18): before any update, after a drop, after a sweep, and after a refused update.
 */
public final class SweepEdgeTest {
    private static final Checks checks = new Checks();
    private static final int NOROOM = TreapVersions.NOROOM;

    private interface Update {
        int make(TreapVersions x);
    }

    public static void main(String[] args) {
        eachUpdateThatMakesNodes();
        updatesThatMakeNone();
        refusedBeforeTheSweep();
        theLeastRoom();
        theGreatestRoom();
        sweptPlacesAreUsedAgain();
        beforeAnyUpdate();
        afterADrop();
        afterASweep();
        afterARefusedUpdate();
        afterAllAreDropped();
        checks.end();
    }

    private static void dueCounts(String when, TreapVersions x, int nodes, int used, int sweeps) {
        checks.due(when, Trees.counts(x), "nodes " + nodes + " used " + used + " sweeps " + sweeps);
    }

    /** The versions 1 (with 5), 2 (with 8) and 3 (5 above 8) have four nodes, and so many places more are used. */
    private static TreapVersions fourNodes(int room, int others) {
        TreapVersions x = new TreapVersions(room, 6, Weights.seedLike(4, 3, 2, 1, 1, 1));
        x.put(0, 5, 50);
        x.put(0, 8, 80);
        x.put(1, 8, 81);
        for (int i = 0; i < others; i++) {
            x.drop(x.put(0, 1, 1));
        }
        dueCounts("four nodes and " + others, x, 4, 4 + others, 0);
        return x;
    }

    /** New keys are put on none or right of all others, so that the weight drawn for them makes no difference. */
    private static void eachUpdateThatMakesNodes() {
        dueAround("on none: put(0, 7, 7)", 1, x -> x.put(0, 7, 7));
        dueAround("new key: put(3, 9, 9)", 3, x -> x.put(3, 9, 9));
        dueAround("key that is there: put(3, 8, 9)", 2, x -> x.put(3, 8, 9));
        dueAround("key of the root: put(3, 5, 9)", 1, x -> x.put(3, 5, 9));
        dueAround("remove(3, 8)", 1, x -> x.remove(3, 8));
        dueAround("below(3, 6)", 1, x -> x.below(3, 6));
        dueAround("below(3, 9)", 2, x -> x.below(3, 9));
        dueAround("join(1, 2)", 1, x -> x.join(1, 2));
    }

    private static void dueAround(String call, int fresh, Update update) {
        dueJustFull(call, fresh, update);
        dueSwept(call, fresh, update);
        dueJustRoom(call, fresh, update);
        dueNoRoom(call, fresh, update);
    }

    /** Uses exactly C: not swept. */
    private static void dueJustFull(String call, int fresh, Update update) {
        TreapVersions x = fourNodes(12, 12 - 4 - fresh);
        checks.due("just full, " + call, update.make(x), 4);
        dueCounts("just full, " + call, x, 4 + fresh, 12, 0);
    }

    /** Would use one more than C: swept first, and what is live stays as it is. */
    private static void dueSwept(String call, int fresh, Update update) {
        TreapVersions x = fourNodes(12, 12 - 4 - fresh + 1);
        String before = Trees.versions(x, 4);
        checks.due("one more, " + call, update.make(x), 4);
        dueCounts("one more, " + call, x, 4 + fresh, 4 + fresh, 1);
        checks.due("one more, " + call + ": the others", Trees.versions(x, 4), before);
        TreapVersions y = fourNodes(12, 0);
        update.make(y);
        checks.due("one more, " + call + ": the tree", Trees.values(x, 4), Trees.values(y, 4));
        checks.due("one more, " + call + ": shared(3, 4)", x.shared(3, 4), y.shared(3, 4));
    }

    /** What is live and what is fresh are just C: made, swept if it is in the way of others. */
    private static void dueJustRoom(String call, int fresh, Update update) {
        TreapVersions x = fourNodes(4 + fresh, 0);
        checks.due("just room, " + call, update.make(x), 4);
        dueCounts("just room, " + call, x, 4 + fresh, 4 + fresh, 0);
        TreapVersions y = fourNodes(4 + fresh, fresh);
        checks.due("just room, swept, " + call, update.make(y), 4);
        dueCounts("just room, swept, " + call, y, 4 + fresh, 4 + fresh, 1);
    }

    /** "(also when the update is NOROOM then)": used is what is live, each time. */
    private static void dueNoRoom(String call, int fresh, Update update) {
        TreapVersions x = fourNodes(4 + fresh - 1, fresh - 1);
        String before = Trees.versions(x, 6);
        checks.due("no room, " + call, update.make(x), NOROOM);
        dueCounts("no room, " + call, x, 4, 4, 1);
        checks.due("no room again, " + call, update.make(x), NOROOM);
        dueCounts("no room again, " + call, x, 4, 4, 2);
        checks.due("no room, " + call + ": the versions", Trees.versions(x, 6), before);
    }

    /** An update without fresh nodes uses no more than before, however full the store is. */
    private static void updatesThatMakeNone() {
        dueNone("T itself: remove(3, 7)", "5=50 8=81", x -> x.remove(3, 7));
        dueNone("of none: remove(0, 7)", "", x -> x.remove(0, 7));
        dueNone("the root, one tree: remove(3, 5)", "8=81", x -> x.remove(3, 5));
        dueNone("the only key: remove(1, 5)", "", x -> x.remove(1, 5));
        dueNone("below(3, 5)", "", x -> x.below(3, 5));
        dueNone("of none: below(0, 5)", "", x -> x.below(0, 5));
        dueNone("join(0, 3)", "5=50 8=81", x -> x.join(0, 3));
        dueNone("join(3, 0)", "5=50 8=81", x -> x.join(3, 0));
        dueNone("join(0, 0)", "", x -> x.join(0, 0));
    }

    private static void dueNone(String call, String values, Update update) {
        TreapVersions x = fourNodes(4, 0);
        checks.due("full of live ones, " + call, update.make(x), 4);
        dueCounts("full of live ones, " + call, x, 4, 4, 0);
        checks.due("full of live ones, " + call, Trees.values(x, 4), values);
        TreapVersions y = fourNodes(6, 2);
        checks.due("full, " + call, update.make(y), 4);
        dueCounts("full, " + call, y, 4, 6, 0);
    }

    /** Only NOROOM sweeps: the other refusals come first and change nothing, though a sweep would make room. */
    private static void refusedBeforeTheSweep() {
        TreapVersions x = fourNodes(6, 2);
        x.put(4, 1, 1);
        x.below(-1, 1);
        x.remove(6, 1);
        x.join(1, 5);
        dueCounts("BADVER", x, 4, 6, 0);
        x.join(3, 2);
        x.join(3, 3);
        dueCounts("MIXED", x, 4, 6, 0);
        x.remove(0, 1);
        x.remove(0, 1);
        checks.due("all live: put(0, 7, 7)", x.put(0, 7, 7), TreapVersions.NOHANDLE);
        checks.due("all live: join(1, 2)", x.join(1, 2), TreapVersions.NOHANDLE);
        dueCounts("NOHANDLE", x, 4, 6, 0);
        x.drop(4);
        checks.due("a handle again: join(1, 2)", x.join(1, 2), 4);
        dueCounts("swept at last", x, 5, 5, 1);
    }

    private static void theLeastRoom() {
        TreapVersions x = new TreapVersions(1, 3, 1);
        for (int i = 0; i < 20; i++) {
            checks.due("one place: put(0, " + i + ", 1)", x.put(0, i, 1), 1);
            dueCounts("one place", x, 1, 1, i);
            x.drop(1);
            dueCounts("one place, dropped", x, 0, 1, i);
        }
        x.put(0, 5, 5);
        checks.due("one place: put(1, 6, 6)", x.put(1, 6, 6), NOROOM);
        checks.due("one place: put(1, 5, 6)", x.put(1, 5, 6), NOROOM);
        checks.due("one place: below(1, 6)", x.below(1, 6), NOROOM);
        checks.due("one place: get(1, 5)", x.get(1, 5), 5);
        dueCounts("one place, refused", x, 1, 1, 23);
        checks.due("one place, nothing fresh: remove(1, 5)", x.remove(1, 5), 2);
        x.drop(2);
        checks.due("one place, nothing fresh: below(1, 5)", x.below(1, 5), 2);
        x.drop(2);
        checks.due("one place, nothing fresh: join(1, 0)", x.join(1, 0), 2);
        dueCounts("one place, nothing fresh", x, 1, 1, 23);
    }

    /** Twenty keys, and single nodes that are dropped at once until all forty places are used. */
    private static void theGreatestRoom() {
        TreapVersions x = new TreapVersions(40, 8, 1);
        int version = 0;
        for (int k = 0; k < 20; k++) {
            int next = x.put(version, k, k);
            x.drop(version);
            version = next;
        }
        int none = x.below(version, Integer.MIN_VALUE);
        dueCounts("twenty keys", x, 20, x.used(), x.sweeps());
        int sweeps = x.sweeps();
        int free = 40 - x.used();
        for (int i = 0; i < free; i++) {
            x.drop(x.put(none, 1, 1));
        }
        dueCounts("all forty", x, 20, 40, sweeps);
        x.put(none, 1, 1);
        dueCounts("one more", x, 21, 21, sweeps + 1);
        checks.due("the twenty keys: their sum", x.sum(version, 0, 19), 190);
    }

    /** No place is lost by sweeps, and none is taken from a live version. */
    private static void sweptPlacesAreUsedAgain() {
        TreapVersions x = fourNodes(7, 0);
        String before = Trees.versions(x, 4);
        for (int i = 0; i < 20; i++) {
            checks.due("three fresh: put(3, 9, " + i + ")", x.put(3, 9, i), 4);
            checks.due("three fresh: version 4 in time " + i, Trees.values(x, 4), "5=50 8=81 9=" + i);
            x.drop(4);
        }
        dueCounts("twenty times", x, 4, 7, 19);
        checks.due("twenty times: the others", Trees.versions(x, 4), before);
    }

    // ---- nodes, used, sweeps

    private static void beforeAnyUpdate() {
        int[][] sizes = {{1, 1}, {40, 8}, {0, 0}, {41, 9}, {-1, -1}, {Integer.MAX_VALUE, Integer.MIN_VALUE}};
        for (int[] size : sizes) {
            TreapVersions x = new TreapVersions(size[0], size[1], 7);
            dueCounts("new", x, 0, 0, 0);
            x.size(0);
            x.contains(0, 1);
            x.sum(0, 1, 2);
            x.shared(0, 0);
            dueCounts("asked", x, 0, 0, 0);
        }
    }

    private static void afterADrop() {
        TreapVersions x = fourNodes(12, 0);
        x.drop(0);
        dueCounts("none is dropped", x, 4, 4, 0);
        x.drop(1);
        dueCounts("a node of its own", x, 3, 4, 0);
        x.remove(3, 7);
        x.drop(3);
        dueCounts("the same tree is in version 0", x, 3, 4, 0);
        x.put(0, 5, 1);
        dueCounts("one copy, 8 in both", x, 4, 5, 0);
        x.drop(0);
        dueCounts("8 is still in the other", x, 3, 5, 0);
        x.drop(0);
        x.drop(7);
        dueCounts("nothing is dropped", x, 3, 5, 0);
    }

    private static void afterASweep() {
        TreapVersions x = fourNodes(6, 2);
        checks.due("first sweep: put(0, 7, 7)", x.put(0, 7, 7), 4);
        dueCounts("first sweep", x, 5, 5, 1);
        x.put(0, 9, 9);
        dueCounts("full again", x, 6, 6, 1);
        x.drop(4);
        dueCounts("dropped after the sweep", x, 5, 6, 1);
        x.put(0, 7, 7);
        dueCounts("second sweep", x, 6, 6, 2);
        x.drop(1);
        x.drop(2);
        dueCounts("two dropped", x, 4, 6, 2);
        checks.due("third sweep: put(3, 8, 1)", x.put(3, 8, 1), 1);
        dueCounts("third sweep", x, 6, 6, 3);
        x.drop(1);
        checks.due("fourth sweep: put(3, 5, 1), 8 in both", x.put(3, 5, 1), 1);
        dueCounts("fourth sweep", x, 5, 5, 4);
    }

    private static void afterARefusedUpdate() {
        TreapVersions x = fourNodes(6, 1);
        x.put(5, 1, 1);
        dueCounts("after BADVER", x, 4, 5, 0);
        x.join(2, 1);
        dueCounts("after MIXED", x, 4, 5, 0);
        checks.due("three fresh: put(3, 9, 9)", x.put(3, 9, 9), NOROOM);
        dueCounts("after NOROOM", x, 4, 4, 1);
        checks.due("three fresh: put(3, 9, 9)", x.put(3, 9, 9), NOROOM);
        dueCounts("after NOROOM again, nothing to sweep", x, 4, 4, 2);
        checks.due("two fresh: put(3, 8, 9)", x.put(3, 8, 9), 4);
        dueCounts("made", x, 6, 6, 2);
        x.remove(0, 1);
        checks.due("all live: put(3, 8, 9)", x.put(3, 8, 9), TreapVersions.NOHANDLE);
        dueCounts("after NOHANDLE", x, 6, 6, 2);
    }

    /** Nothing can be made any more then, so that nothing is swept either. */
    private static void afterAllAreDropped() {
        TreapVersions x = fourNodes(5, 1);
        for (int version = 0; version < 4; version++) {
            x.drop(version);
        }
        dueCounts("all dropped", x, 0, 5, 0);
        for (int version = 0; version < 6; version++) {
            checks.due("all dropped: put", x.put(version, 1, 1), TreapVersions.BADVER);
            checks.due("all dropped: remove", x.remove(version, 1), TreapVersions.BADVER);
            checks.due("all dropped: below", x.below(version, 1), TreapVersions.BADVER);
            checks.due("all dropped: join", x.join(version, version), TreapVersions.BADVER);
            checks.due("all dropped: drop", x.drop(version), false);
        }
        dueCounts("all dropped", x, 0, 5, 0);
    }
}

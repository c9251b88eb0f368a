/** Promises 16 to 18: nodes, used, sweeps. */
public final class StoreTest {
    private static final Checks checks = new Checks();

    public static void main(String[] args) {
        nodesInSeveralTreesCountOnce();
        usedCountsFreshNodesUntilSwept();
        sweptOnlyBeyondTheRoom();
        sweptAlsoWithoutRoom();
        sweptStoreKeepsLiveTrees();
        fullRoom();
        checks.end();
    }

    private static void due(String when, TreapVersions x, int nodes, int used, int sweeps) {
        checks.due(when + ": nodes()", x.nodes(), nodes);
        checks.due(when + ": used()", x.used(), used);
        checks.due(when + ": sweeps()", x.sweeps(), sweeps);
    }

    /** Seed 5 draws 15, 9, 8, 5. */
    private static void nodesInSeveralTreesCountOnce() {
        TreapVersions x = new TreapVersions(40, 8, 5);
        x.put(0, 10, 1);
        x.put(1, 20, 2);
        x.put(2, 15, 3);
        x.put(3, 5, 4);
        due("four versions", x, 8, 8, 0);
        x.remove(4, 99);
        x.join(0, 4);
        due("the same tree again", x, 8, 8, 0);
        x.drop(4);
        due("still in others", x, 8, 8, 0);
        x.drop(5);
        x.drop(6);
        due("10 and 5 in none, 20 and 15 in version 3", x, 6, 8, 0);
    }

    private static void usedCountsFreshNodesUntilSwept() {
        TreapVersions x = new TreapVersions(3, 8, 5);
        x.put(0, 1, 1);
        x.drop(1);
        due("dropped", x, 0, 1, 0);
        x.put(0, 1, 1);
        x.drop(1);
        x.put(0, 1, 1);
        due("all used", x, 1, 3, 0);
        x.put(0, 2, 2);
        due("swept", x, 2, 2, 1);
    }

    private static void sweptOnlyBeyondTheRoom() {
        TreapVersions x = new TreapVersions(2, 8, 5);
        x.put(0, 1, 1);
        x.drop(1);
        x.put(0, 1, 1);
        due("just full", x, 1, 2, 0);
        x.remove(1, 7);
        x.join(1, 0);
        x.below(1, 1);
        due("nothing fresh", x, 1, 2, 0);
        x.put(9, 1, 1);
        x.join(1, 1);
        due("refused before", x, 1, 2, 0);
    }

    private static void sweptAlsoWithoutRoom() {
        TreapVersions x = new TreapVersions(2, 8, 5);
        x.put(0, 1, 1);
        x.put(0, 2, 2);
        due("full", x, 2, 2, 0);
        checks.due("put(0, 3, 3)", x.put(0, 3, 3), TreapVersions.NOROOM);
        due("swept in vain", x, 2, 2, 1);
        x.drop(1);
        checks.due("put(2, 3, 3)", x.put(2, 3, 3), TreapVersions.NOROOM);
        due("swept, but still no room", x, 1, 1, 2);
        checks.due("put(2, 3, 3)", x.put(2, 3, 3), TreapVersions.NOROOM);
        due("swept again", x, 1, 1, 3);
        checks.due("put(2, 2, 3)", x.put(2, 2, 3), 1);
        due("room for one", x, 2, 2, 3);
    }

    /** Makes a version after the other in a small store, and looks whether an old one stays as it is. */
    private static void sweptStoreKeepsLiveTrees() {
        TreapVersions x = new TreapVersions(8, 4, 27);
        x.put(0, 30, 1);
        x.put(1, 10, 2);
        x.put(2, 20, 3);
        x.drop(1);
        x.drop(2);
        for (int i = 0; i < 40; i++) {
            int handle = x.put(3, 20, i);
            checks.due("kept: put(3, 20, " + i + ")", handle, 1);
            checks.due("kept: get(1, 20)", x.get(1, 20), i);
            checks.due("kept: get(3, 20)", x.get(3, 20), 3);
            x.drop(handle);
        }
        checks.dueKeys("kept", x, 3, 10, 20, 30);
        checks.due("kept: sum(3, 0, 99)", x.sum(3, 0, 99), 6);
        checks.due("kept: nodes()", x.nodes(), 3);
        // 6 are used at first, 2 copies a time: 8, then swept down to 3 and 5, 7; swept: 5, 7 ...
        checks.due("kept: sweeps()", x.sweeps(), 20);
    }

    /** Keys in a room of 40 until there is none: every place can be used, and none is lost by sweeps. */
    private static void fullRoom() {
        TreapVersions x = new TreapVersions(40, 8, 1);
        int refused = 0;
        int version = 0;
        for (int k = 0; k < 60; k++) {
            int handle = x.put(version, k, k);
            if (handle == TreapVersions.NOROOM) {
                refused++;
            } else {
                x.drop(version);
                version = handle;
            }
        }
        int keys = x.size(version);
        checks.due("full: refused and taken", refused + keys, 60);
        checks.due("full: some are refused", refused > 0, true);
        checks.due("full: more than half are keys", keys > 20 && keys <= 40, true);
        checks.due("full: nodes()", x.nodes(), keys);
        checks.due("full: the sum of the keys", x.sum(version, 0, 60), keys * (keys - 1) / 2);
    }
}

/** Promise 1: A new object. */
public final class NewObjectTest {
    private static final Checks checks = new Checks();

    public static void main(String[] args) {
        startsEmpty();
        for (int room : new int[] {1, 2, 19, 20, 21, 39, 40}) {
            dueRoom(room, room);
        }
        for (int room : new int[] {0, -1, 41, 42, 1000, Integer.MIN_VALUE, Integer.MAX_VALUE}) {
            dueRoom(room, 20);
        }
        for (int versions = 1; versions <= 8; versions++) {
            dueVersions(versions, versions);
        }
        for (int versions : new int[] {0, -1, 9, 10, 1000, Integer.MIN_VALUE, Integer.MAX_VALUE}) {
            dueVersions(versions, 4);
        }
        for (int size : new int[] {0, -1, 41, Integer.MIN_VALUE, Integer.MAX_VALUE}) {
            bothAreWrong(size);
        }
        seedsDiffer();
        checks.end();
    }

    private static void startsEmpty() {
        TreapVersions x = new TreapVersions(5, 3, 77);
        checks.due("new: isLive(-1)", x.isLive(-1), false);
        checks.due("new: isLive(0)", x.isLive(0), true);
        checks.due("new: isLive(1)", x.isLive(1), false);
        checks.due("new: isLive(2)", x.isLive(2), false);
        checks.due("new: isLive(3)", x.isLive(3), false);
        checks.due("new: size(0)", x.size(0), 0);
        checks.due("new: nodes()", x.nodes(), 0);
        checks.due("new: used()", x.used(), 0);
        checks.due("new: sweeps()", x.sweeps(), 0);
    }

    /** Uses a place a time, none of them for long: used grows up to the room before a sweep. */
    private static void dueRoom(int room, int want) {
        TreapVersions x = new TreapVersions(room, 2, 1);
        int most = 0;
        for (int i = 0; i < 50; i++) {
            x.drop(x.put(0, 1, i));
            most = Math.max(most, x.used());
        }
        checks.due("the room for " + room, most, want);
        // Nothing is live at a sweep, so that the next one is as many puts away as there are places.
        checks.due("the sweeps in a room for " + room, x.sweeps(), (50 - 1) / want);
    }

    private static void dueVersions(int versions, int want) {
        TreapVersions x = new TreapVersions(5, versions, 1);
        for (int handle = 1; handle < want; handle++) {
            checks.due("versions " + versions + ": remove(0, 1)", x.remove(0, 1), handle);
        }
        checks.due("versions " + versions + ": remove(0, 1)", x.remove(0, 1), TreapVersions.NOHANDLE);
        checks.due("versions " + versions + ": isLive(last)", x.isLive(want - 1), true);
        checks.due("versions " + versions + ": isLive(behind it)", x.isLive(want), false);
    }

    /** A size that is neither a room nor a number of versions: 20 places and 4 handles. */
    private static void bothAreWrong(int size) {
        TreapVersions x = new TreapVersions(size, size, 1);
        for (int i = 0; i < 20; i++) {
            x.drop(x.put(0, 1, i));
        }
        checks.due("both " + size + ": used()", x.used(), 20);
        checks.due("both " + size + ": sweeps()", x.sweeps(), 0);
        for (int handle = 1; handle < 4; handle++) {
            checks.due("both " + size + ": below(0, 1)", x.below(0, 1), handle);
        }
        checks.due("both " + size + ": below(0, 1)", x.below(0, 1), TreapVersions.NOHANDLE);
        x.drop(1);
        checks.due("both " + size + ": put(0, 1, 1)", x.put(0, 1, 1), 1);
        checks.due("both " + size + ": used() after the next", x.used(), 1);
        checks.due("both " + size + ": sweeps() after the next", x.sweeps(), 1);
    }

    /** The first two weights are 15, 9 with the seed 5; 0, 1 with 33; 9, 9 with -1; 0, 15 with -5. */
    private static void seedsDiffer() {
        dueSecondDepth(5, 1);
        dueSecondDepth(33, 0);
        dueSecondDepth(-1, 1);
        dueSecondDepth(-5, 0);
    }

    private static void dueSecondDepth(int seed, int want) {
        TreapVersions x = new TreapVersions(9, 3, seed);
        x.put(0, 10, 1);
        x.put(1, 20, 2);
        checks.due("seed " + seed + ": depth(2, 20)", x.depth(2, 20), want);
    }
}

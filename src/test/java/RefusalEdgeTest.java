/**
 * "An update is refused, changing nothing but what is said, by the first of these": each refusal by itself, each two
 * at once, what stays as it is then, and the handle that an update takes if it is not refused (promises 2 to 5).
 */
public final class RefusalEdgeTest {
    private static final Checks checks = new Checks();
    private static final int BADVER = TreapVersions.BADVER;
    private static final int NOHANDLE = TreapVersions.NOHANDLE;
    private static final int NOROOM = TreapVersions.NOROOM;
    private static final int MIXED = TreapVersions.MIXED;

    public static void main(String[] args) {
        badVersionAlone();
        badVersionOfFewHandles();
        mixedAlone();
        noHandleAlone();
        noHandleWithOneVersion();
        noRoomAlone();
        noRoomByOne();
        badVersionBeforeMixed();
        badVersionBeforeNoHandle();
        badVersionBeforeNoRoom();
        mixedBeforeNoHandle();
        mixedBeforeNoRoom();
        noHandleBeforeNoRoom();
        allAtOnce();
        noWeightIsDrawnWhenRefused();
        noWeightIsDrawnButForNewNodes();
        theLeastHandleIsTaken();
        theLeastHandleOfEachUpdate();
        refusedUpdatesTakeNoHandle();
        checks.end();
    }

    /** Every update with a version that is to be bad: alone, and as each of the two of join. */
    private static void dueBad(TreapVersions x, int bad, int good) {
        checks.due("put(" + bad + ", 1, 1)", x.put(bad, 1, 1), BADVER);
        checks.due("put(" + bad + ", 10, 1)", x.put(bad, 10, 1), BADVER);
        checks.due("remove(" + bad + ", 10)", x.remove(bad, 10), BADVER);
        checks.due("below(" + bad + ", 10)", x.below(bad, 10), BADVER);
        checks.due("join(" + bad + ", " + good + ")", x.join(bad, good), BADVER);
        checks.due("join(" + good + ", " + bad + ")", x.join(good, bad), BADVER);
        checks.due("join(" + bad + ", " + bad + ")", x.join(bad, bad), BADVER);
    }

    private static final int[] NO_HANDLES = {8, 9, 40, -1, -2, -3, -4, Integer.MIN_VALUE, Integer.MAX_VALUE};

    /** The versions 0, 1 and 2 are live, 3 is dropped, 4 .. 7 never were live, and what is not 0 .. 7 is no handle. */
    private static void badVersionAlone() {
        TreapVersions x = Trees.grown(Trees.keys(10, 20, 30), 3, 2, 1);
        x.drop(3);
        String before = Trees.state(x, 8);
        for (int bad = 3; bad < 8; bad++) {
            dueBad(x, bad, 2);
        }
        for (int bad : NO_HANDLES) {
            dueBad(x, bad, 2);
        }
        checks.due("after BADVER", Trees.state(x, 8), before);
    }

    private static void badVersionOfFewHandles() {
        for (int versions = 1; versions <= 8; versions++) {
            TreapVersions x = new TreapVersions(5, versions, 1);
            dueBad(x, versions, 0);
            dueBad(x, -1, 0);
        }
        TreapVersions x = new TreapVersions(5, 0, 1);
        dueBad(x, 4, 0);
    }

    private static void mixedAlone() {
        TreapVersions x = new TreapVersions(40, 8, 1);
        x.put(0, 5, 1);
        x.put(0, 8, 1);
        x.put(1, 8, 1);
        String before = Trees.state(x, 8);
        checks.due("greater first: join(2, 1)", x.join(2, 1), MIXED);
        checks.due("the same: join(1, 1)", x.join(1, 1), MIXED);
        checks.due("8 in both: join(3, 2)", x.join(3, 2), MIXED);
        checks.due("5 in both: join(1, 3)", x.join(1, 3), MIXED);
        checks.due("after MIXED", Trees.state(x, 8), before);
    }

    /** All handles are live, and there is room: also for updates that make no node. */
    private static void noHandleAlone() {
        TreapVersions x = new TreapVersions(40, 3, 1);
        x.put(0, 10, 100);
        x.put(0, 20, 200);
        String before = Trees.state(x, 3);
        checks.due("new key: put(1, 11, 1)", x.put(1, 11, 1), NOHANDLE);
        checks.due("key that is there: put(1, 10, 1)", x.put(1, 10, 1), NOHANDLE);
        checks.due("on none: put(0, 10, 1)", x.put(0, 10, 1), NOHANDLE);
        checks.due("remove(1, 10)", x.remove(1, 10), NOHANDLE);
        checks.due("T itself: remove(1, 11)", x.remove(1, 11), NOHANDLE);
        checks.due("below(1, 11)", x.below(1, 11), NOHANDLE);
        checks.due("nothing fresh: below(1, 10)", x.below(1, 10), NOHANDLE);
        checks.due("join(1, 2)", x.join(1, 2), NOHANDLE);
        checks.due("nothing fresh: join(0, 2)", x.join(0, 2), NOHANDLE);
        checks.due("after NOHANDLE", Trees.state(x, 3), before);
        x.drop(0);
        checks.due("a handle again: join(1, 2)", x.join(1, 2), 0);
    }

    private static void noHandleWithOneVersion() {
        TreapVersions x = new TreapVersions(5, 1, 1);
        checks.due("one handle: put(0, 1, 1)", x.put(0, 1, 1), NOHANDLE);
        checks.due("one handle: remove(0, 1)", x.remove(0, 1), NOHANDLE);
        checks.due("one handle: below(0, 1)", x.below(0, 1), NOHANDLE);
        checks.due("one handle: join(0, 0)", x.join(0, 0), NOHANDLE);
        checks.due("one handle", Trees.state(x, 1), "0 [] [] shares; nodes 0 used 0 sweeps 0");
        TreapVersions full = new TreapVersions(40, 8, 1);
        Trees.grow(full, 1, 2, 3, 4, 5, 6, 7);
        checks.due("eight handles: remove(7, 9)", full.remove(7, 9), NOHANDLE);
    }

    /** The versions 1 (with 5), 2 (with 8) and 3 (5 above 8) have four nodes; 4 .. 7 are free. */
    private static TreapVersions fourNodes(int room) {
        TreapVersions x = new TreapVersions(room, 8, Weights.seedLike(3, 2, 1));
        x.put(0, 5, 50);
        x.put(0, 8, 80);
        x.put(1, 8, 81);
        return x;
    }

    private static void noRoomAlone() {
        TreapVersions x = fourNodes(4);
        String before = Trees.versions(x, 8);
        checks.due("on none: put(0, 1, 1)", x.put(0, 1, 1), NOROOM);
        checks.due("new key: put(3, 9, 1)", x.put(3, 9, 1), NOROOM);
        checks.due("key that is there: put(3, 5, 1)", x.put(3, 5, 1), NOROOM);
        checks.due("key that is there: put(3, 8, 1)", x.put(3, 8, 1), NOROOM);
        checks.due("remove(3, 8)", x.remove(3, 8), NOROOM);
        checks.due("below(3, 6)", x.below(3, 6), NOROOM);
        checks.due("below(3, 9)", x.below(3, 9), NOROOM);
        checks.due("join(1, 2)", x.join(1, 2), NOROOM);
        checks.due("after NOROOM", Trees.versions(x, 8), before);
        checks.due("after NOROOM", Trees.counts(x), "nodes 4 used 4 sweeps 8");
        checks.due("nothing fresh: remove(3, 5)", x.remove(3, 5), 4);
        checks.due("nothing fresh: remove(3, 6)", x.remove(3, 6), 5);
        checks.due("nothing fresh: below(3, 5)", x.below(3, 5), 6);
        checks.due("nothing fresh: join(0, 3)", x.join(0, 3), 7);
        checks.due("nothing fresh", Trees.counts(x), "nodes 4 used 4 sweeps 8");
    }

    /** "more than C together": just C is room enough, one less is not. */
    private static void noRoomByOne() {
        for (int room = 4; room <= 8; room++) {
            String in = " in a room of " + room;
            checks.due("three fresh: put(3, 9, 1)" + in, fourNodes(room).put(3, 9, 1), room >= 7 ? 4 : NOROOM);
            checks.due("two fresh: put(3, 8, 1)" + in, fourNodes(room).put(3, 8, 1), room >= 6 ? 4 : NOROOM);
            checks.due("one fresh: remove(3, 8)" + in, fourNodes(room).remove(3, 8), room >= 5 ? 4 : NOROOM);
            checks.due("two fresh: below(3, 9)" + in, fourNodes(room).below(3, 9), room >= 6 ? 4 : NOROOM);
            checks.due("one fresh: join(1, 2)" + in, fourNodes(room).join(1, 2), room >= 5 ? 4 : NOROOM);
        }
    }

    /** A dropped version has no tree any more that could be mixed with another one. */
    private static void badVersionBeforeMixed() {
        TreapVersions x = new TreapVersions(40, 4, 1);
        x.put(0, 10, 1);
        x.put(0, 10, 1);
        checks.due("both live: join(1, 2)", x.join(1, 2), MIXED);
        x.drop(2);
        checks.due("BADVER, then MIXED: join(1, 2)", x.join(1, 2), BADVER);
        checks.due("BADVER, then MIXED: join(2, 1)", x.join(2, 1), BADVER);
        checks.due("BADVER, then MIXED: join(2, 2)", x.join(2, 2), BADVER);
    }

    private static void badVersionBeforeNoHandle() {
        TreapVersions x = new TreapVersions(40, 2, 1);
        x.put(0, 10, 100);
        String before = Trees.state(x, 2);
        for (int bad : new int[] {2, 3, 7, -1, -2}) {
            dueBad(x, bad, 1);
        }
        checks.due("BADVER, then NOHANDLE", Trees.state(x, 2), before);
    }

    private static void badVersionBeforeNoRoom() {
        TreapVersions x = new TreapVersions(1, 3, 1);
        x.put(0, 10, 100);
        String before = Trees.state(x, 3);
        for (int bad : new int[] {2, 3, -1, -3}) {
            dueBad(x, bad, 1);
        }
        checks.due("BADVER, then NOROOM: nothing is swept", Trees.state(x, 3), before);
    }

    private static void mixedBeforeNoHandle() {
        TreapVersions x = new TreapVersions(40, 3, 1);
        x.put(0, 5, 1);
        x.put(0, 8, 1);
        checks.due("MIXED, then NOHANDLE: join(2, 1)", x.join(2, 1), MIXED);
        checks.due("MIXED, then NOHANDLE: join(1, 1)", x.join(1, 1), MIXED);
        checks.due("NOHANDLE alone: join(1, 2)", x.join(1, 2), NOHANDLE);
    }

    private static void mixedBeforeNoRoom() {
        TreapVersions x = new TreapVersions(2, 8, 1);
        x.put(0, 5, 1);
        x.put(0, 8, 1);
        checks.due("MIXED, then NOROOM: join(2, 1)", x.join(2, 1), MIXED);
        checks.due("MIXED, then NOROOM: join(2, 2)", x.join(2, 2), MIXED);
        checks.due("MIXED, then NOROOM: nothing is swept", Trees.counts(x), "nodes 2 used 2 sweeps 0");
        checks.due("NOROOM alone: join(1, 2)", x.join(1, 2), NOROOM);
        checks.due("NOROOM alone", Trees.counts(x), "nodes 2 used 2 sweeps 1");
    }

    private static void noHandleBeforeNoRoom() {
        TreapVersions x = new TreapVersions(2, 3, 1);
        x.put(0, 5, 1);
        x.put(0, 8, 1);
        checks.due("NOHANDLE, then NOROOM: put(1, 5, 2)", x.put(1, 5, 2), NOHANDLE);
        checks.due("NOHANDLE, then NOROOM: put(1, 6, 2)", x.put(1, 6, 2), NOHANDLE);
        checks.due("NOHANDLE, then NOROOM: below(1, 6)", x.below(1, 6), NOHANDLE);
        checks.due("NOHANDLE, then NOROOM: join(1, 2)", x.join(1, 2), NOHANDLE);
        checks.due("NOHANDLE, then NOROOM: nothing is swept", Trees.counts(x), "nodes 2 used 2 sweeps 0");
        TreapVersions y = new TreapVersions(3, 3, Weights.seedLike(3, 2));
        y.put(0, 5, 1);
        y.put(1, 8, 1);
        checks.due("NOHANDLE, then NOROOM: remove(2, 8)", y.remove(2, 8), NOHANDLE);
        checks.due("NOHANDLE, then NOROOM: nothing is swept", Trees.counts(y), "nodes 3 used 3 sweeps 0");
    }

    private static void allAtOnce() {
        TreapVersions x = new TreapVersions(2, 3, 1);
        x.put(0, 5, 1);
        x.put(0, 8, 1);
        checks.due("all four: join(2, 3)", x.join(2, 3), BADVER);
        checks.due("all four: join(-1, 2)", x.join(-1, 2), BADVER);
        checks.due("all but BADVER: join(2, 1)", x.join(2, 1), MIXED);
        checks.due("NOHANDLE and NOROOM: join(1, 2)", x.join(1, 2), NOHANDLE);
        x.drop(0);
        checks.due("MIXED and NOROOM: join(2, 1)", x.join(2, 1), MIXED);
        checks.due("NOROOM alone: join(1, 2)", x.join(1, 2), NOROOM);
        checks.due("all of them", Trees.state(x, 3),
            "0 [not live] [not live] shares; 1 [5:0] [5=1] shares -1; 2 [8:0] [8=1] shares -1 0; nodes 2 used 2 sweeps 1");
    }

    /** "(no weight is drawn then)": the next new node has the second weight, under 10; the third one goes above. */
    private static void noWeightIsDrawnWhenRefused() {
        TreapVersions x = new TreapVersions(3, 3, Weights.seedLike(2, 1, 3, 3, 3, 3));
        x.put(0, 10, 1);
        checks.due("refused: put(2, 20, 1)", x.put(2, 20, 1), BADVER);
        checks.due("another tree with 10: put(1, 10, 2)", x.put(1, 10, 2), 2);
        checks.due("refused: put(1, 20, 1)", x.put(1, 20, 1), NOHANDLE);
        x.drop(0);
        for (int i = 0; i < 3; i++) {
            checks.due("refused: put(1, 20, 1)", x.put(1, 20, 1), NOROOM);
        }
        x.drop(2);
        checks.due("not refused: put(1, 20, 1)", x.put(1, 20, 1), 0);
        checks.due("no weight was drawn before", Trees.shape(x, 0), "10:0 20:1");
        x.drop(1);
        checks.due("the only free place: remove(0, 20)", x.remove(0, 20), 1);
        x.drop(0);
        checks.due("not refused: put(1, 20, 1)", x.put(1, 20, 1), 0);
        checks.due("one weight was drawn before", Trees.shape(x, 0), "10:1 20:0");
    }

    /** What draws: a new key alone, not a key that is there, and none of the other updates. */
    private static void noWeightIsDrawnButForNewNodes() {
        TreapVersions x = new TreapVersions(40, 8, Weights.seedLike(2, 1, 3, 3, 3, 3));
        x.put(0, 10, 1);
        x.put(1, 10, 2);
        x.remove(1, 10);
        x.remove(1, 11);
        x.below(1, 11);
        x.join(1, 0);
        checks.due("the second new key: put(2, 20, 1)", x.put(2, 20, 1), 7);
        checks.due("the second new key", Trees.shape(x, 7), "10:0 20:1");
        x.drop(6);
        checks.due("the third new key: put(2, 20, 1)", x.put(2, 20, 1), 6);
        checks.due("the third new key", Trees.shape(x, 6), "10:1 20:0");
    }

    /** "the least handle that is not live is live and stands for the tree made: it is the answer" */
    private static void theLeastHandleIsTaken() {
        TreapVersions x = new TreapVersions(40, 8, 1);
        for (int handle = 1; handle < 8; handle++) {
            checks.due("one after the other: put", x.put(0, handle, 1), handle);
            checks.due("one after the other: keyAt", x.keyAt(handle, 0), handle);
        }
        x.drop(6);
        x.drop(3);
        x.drop(7);
        checks.due("the least of 3, 6, 7", x.put(5, 30, 1), 3);
        checks.due("the least of 6, 7", x.put(3, 60, 1), 6);
        x.drop(0);
        checks.due("the least of 0, 7", x.put(6, 70, 1), 0);
        checks.due("7 alone", x.put(0, 80, 1), 7);
        checks.due("none is left", x.put(7, 90, 1), NOHANDLE);
        checks.due("what version 7 has", Trees.values(x, 7), "5=1 30=1 60=1 70=1 80=1");
        checks.due("what version 0 has", Trees.values(x, 0), "5=1 30=1 60=1 70=1");
        checks.due("what version 3 has", Trees.values(x, 3), "5=1 30=1");
    }

    private static void theLeastHandleOfEachUpdate() {
        TreapVersions x = new TreapVersions(40, 5, 1);
        Trees.grow(x, 10, 20, 30, 40);
        x.drop(1);
        checks.due("the least: put(4, 10, 1)", x.put(4, 10, 1), 1);
        x.drop(1);
        checks.due("the least: remove(4, 10)", x.remove(4, 10), 1);
        x.drop(1);
        checks.due("the least: below(4, 20)", x.below(4, 20), 1);
        x.drop(0);
        x.drop(2);
        checks.due("the least: remove(1, 10)", x.remove(1, 10), 0);
        checks.due("the least: join(0, 4)", x.join(0, 4), 2);
    }

    private static void refusedUpdatesTakeNoHandle() {
        TreapVersions x = fourNodes(4);
        x.put(3, 9, 1);
        x.join(2, 1);
        x.below(6, 1);
        checks.due("isLive(4)", x.isLive(4), false);
        checks.due("a refusal is no version: put(NOROOM, 1, 1)", x.put(NOROOM, 1, 1), BADVER);
        checks.due("the next one: remove(0, 1)", x.remove(0, 1), 4);
    }
}

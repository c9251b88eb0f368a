import java.util.Arrays;
import java.util.NoSuchElementException;

/** Maps from ints to ints in many versions side by side, which share the nodes that are the same. */
public final class TreapVersions {
    public static final int BADVER = -1;
    public static final int NOHANDLE = -2;
    public static final int NOROOM = -3;
    public static final int MIXED = -4;

    private static final int MOST_ROOM = 40;
    private static final int USUAL_ROOM = 20;
    private static final int MOST_VERSIONS = 8;
    private static final int USUAL_VERSIONS = 4;

    /** Stands for the tree NONE, and for "no such place" and "no such handle". */
    private static final int NONE = -1;
    /** Stands in the row of roots where a handle is not live. */
    private static final int NOT_LIVE = -2;

    private final Store store;
    private final int[] roots;
    private int seed;
    private int sweepCount;

    public TreapVersions(int room, int versions, int seed) {
        this.store = new Store(room >= 1 && room <= MOST_ROOM ? room : USUAL_ROOM);
        this.roots = new int[versions >= 1 && versions <= MOST_VERSIONS ? versions : USUAL_VERSIONS];
        Arrays.fill(this.roots, NOT_LIVE);
        this.roots[0] = NONE;
        this.seed = seed;
        this.sweepCount = 0;
    }

    public int put(int version, int k, int v) {
        if (!isLive(version)) {
            return BADVER;
        }
        int handle = leastFreeHandle();
        if (handle == NONE) {
            return NOHANDLE;
        }
        store.traceTo(roots[version], k);
        // The node with k is fresh too, whether it is a copy or new.
        if (!makeRoom(store.way.length + 1)) {
            return NOROOM;
        }
        roots[handle] = store.way.end == NONE ? store.plant(k, v, drawWeight()) : store.revalue(v);
        return handle;
    }

    public int remove(int version, int k) {
        if (!isLive(version)) {
            return BADVER;
        }
        store.traceWithout(roots[version], k);
        return addTracedVersion();
    }

    public int below(int version, int k) {
        if (!isLive(version)) {
            return BADVER;
        }
        store.traceBelow(roots[version], k);
        return addTracedVersion();
    }

    public int join(int a, int b) {
        if (!isLive(a) || !isLive(b)) {
            return BADVER;
        }
        if (!store.allLess(roots[a], roots[b])) {
            return MIXED;
        }
        store.way.restart();
        store.traceJoint(roots[a], roots[b]);
        return addTracedVersion();
    }

    public boolean drop(int version) {
        if (!isLive(version)) {
            return false;
        }
        roots[version] = NOT_LIVE;
        return true;
    }

    public boolean isLive(int version) {
        return version >= 0 && version < roots.length && roots[version] != NOT_LIVE;
    }

    public int get(int version, int k) throws NoSuchElementException {
        int place = placeOf(version, k);
        if (place == NONE) {
            throw new NoSuchElementException();
        }
        return store.value[place];
    }

    public boolean contains(int version, int k) {
        return placeOf(version, k) != NONE;
    }

    public int size(int version) {
        return isLive(version) ? store.list(roots[version]) : BADVER;
    }

    public int floor(int version, int k) throws NoSuchElementException {
        int place = isLive(version) ? store.placeAtMost(roots[version], k) : NONE;
        if (place == NONE) {
            throw new NoSuchElementException();
        }
        return store.key[place];
    }

    public int keyAt(int version, int i) throws NoSuchElementException, IndexOutOfBoundsException {
        if (!isLive(version)) {
            throw new NoSuchElementException();
        }
        if (i < 0 || i >= store.list(roots[version])) {
            throw new IndexOutOfBoundsException();
        }
        return store.key[store.listed[i]];
    }

    public long sum(int version, int low, int high) {
        return isLive(version) ? store.total(roots[version], low, high) : 0L;
    }

    public int depth(int version, int k) throws NoSuchElementException {
        if (placeOf(version, k) == NONE) {
            throw new NoSuchElementException();
        }
        return store.way.length;
    }

    public int shared(int a, int b) {
        if (!isLive(a) || !isLive(b)) {
            return BADVER;
        }
        store.clearMarks();
        store.markTree(roots[a]);
        return store.list(roots[b]) - store.markTree(roots[b]);
    }

    public int nodes() {
        return markLive();
    }

    public int used() {
        return store.room - store.freeCount;
    }

    public int sweeps() {
        return sweepCount;
    }

    /** The place of k, or NONE when the version is not live or has not k; the way leads to it. */
    private int placeOf(int version, int k) {
        if (!isLive(version)) {
            return NONE;
        }
        store.traceTo(roots[version], k);
        return store.way.end;
    }

    /** The answer of an update whose fresh nodes are the copies of the way that was traced. */
    private int addTracedVersion() {
        int handle = leastFreeHandle();
        if (handle == NONE) {
            return NOHANDLE;
        }
        if (!makeRoom(store.way.length)) {
            return NOROOM;
        }
        roots[handle] = store.copyWay(store.way.length, store.way.end);
        return handle;
    }

    private int leastFreeHandle() {
        for (int handle = 0; handle < roots.length; handle++) {
            if (roots[handle] == NOT_LIVE) {
                return handle;
            }
        }
        return NONE;
    }

    /** Sweeps if there are not so many places free; false when there are too few even then. */
    private boolean makeRoom(int fresh) {
        if (fresh > store.freeCount) {
            markLive();
            store.freeUnmarked();
            sweepCount++;
        }
        return fresh <= store.freeCount;
    }

    /** Marks the nodes in trees of live versions, and answers how many they are. */
    private int markLive() {
        store.clearMarks();
        int count = 0;
        for (int handle = 0; handle < roots.length; handle++) {
            if (isLive(handle)) {
                count += store.markTree(roots[handle]);
            }
        }
        return count;
    }

    private int drawWeight() {
        seed = seed * 1103515245 + 12345;
        return (seed >>> 16) & 15;
    }

    /**
     * The nodes that an update copies, from the top down, and the tree that hangs under the last.
     * Every update copies one such chain, so its length tells the fresh nodes before one is made.
     */
    private static final class Way {
        final int[] places;
        /** Whether the way goes on in the right tree of the node, else in its left one. */
        final boolean[] toRight;
        int length;
        int end;

        Way(int room) {
            places = new int[room];
            toRight = new boolean[room];
            length = 0;
            end = NONE;
        }

        void restart() {
            length = 0;
            end = NONE;
        }

        void append(int place, boolean right) {
            if (length < places.length) {
                places[length] = place;
                toRight[length] = right;
                length++;
            }
        }
    }

    /** The places of the nodes, in rows; a tree is the place of its root, or NONE. */
    private static final class Store {
        final int room;
        final int[] key;
        final int[] value;
        final int[] weight;
        final int[] left;
        final int[] right;
        /** The free places are the first freeCount ones of this row. */
        final int[] free;
        int freeCount;
        final boolean[] marked;
        /** What list found: the places of a tree's nodes in the order of their keys. */
        final int[] listed;
        final int[] open;
        final Way way;

        Store(int room) {
            this.room = room;
            key = new int[room];
            value = new int[room];
            weight = new int[room];
            left = new int[room];
            right = new int[room];
            free = new int[room];
            marked = new boolean[room];
            listed = new int[room];
            open = new int[room];
            way = new Way(room);
            for (int place = 0; place < room; place++) {
                free[place] = place;
            }
            freeCount = room;
        }

        private boolean isNode(int tree) {
            return tree >= 0 && tree < room;
        }

        /** The way is that from the root to the node with k, which is its end, or NONE. */
        void traceTo(int root, int k) {
            way.restart();
            int at = root;
            for (int step = 0; step < room && isNode(at); step++) {
                if (key[at] == k) {
                    way.end = at;
                    return;
                }
                boolean lesser = key[at] < k;
                way.append(at, lesser);
                at = lesser ? right[at] : left[at];
            }
        }

        /** The way is what REMOVE copies: none of the tree when it has not k. */
        void traceWithout(int root, int k) {
            traceTo(root, k);
            int gone = way.end;
            if (isNode(gone)) {
                traceJoint(left[gone], right[gone]);
            } else {
                way.restart();
                way.end = root;
            }
        }

        /** The way is what BELOW copies: the nodes with lesser keys alone, each right of the one before. */
        void traceBelow(int root, int k) {
            way.restart();
            int at = root;
            for (int step = 0; step < room && isNode(at); step++) {
                boolean lesser = key[at] < k;
                if (lesser) {
                    way.append(at, true);
                }
                at = lesser ? right[at] : left[at];
            }
        }

        /** Goes on with the way by what THE JOINT of two trees copies. */
        void traceJoint(int lesser, int greater) {
            int l = lesser;
            int r = greater;
            for (int step = 0; step < room && isNode(l) && isNode(r); step++) {
                if (goesAbove(l, weight[r], key[r])) {
                    way.append(l, true);
                    l = right[l];
                } else {
                    way.append(r, false);
                    r = left[r];
                }
            }
            way.end = isNode(l) ? l : r;
        }

        private boolean goesAbove(int place, int otherWeight, int otherKey) {
            return weight[place] > otherWeight || weight[place] == otherWeight && key[place] < otherKey;
        }

        /** The tree with copies of the first nodes of the way, and another tree where the next one was. */
        int copyWay(int count, int under) {
            int tree = under;
            for (int i = count - 1; i >= 0; i--) {
                tree = copyTurn(i, tree);
            }
            return tree;
        }

        /** A copy of a node of the way, with another tree in the direction that the way takes there. */
        private int copyTurn(int i, int tree) {
            int from = way.places[i];
            return way.toRight[i]
                ? makeNode(key[from], value[from], weight[from], left[from], tree)
                : makeNode(key[from], value[from], weight[from], tree, right[from]);
        }

        /** The tree of PUT with a new value for the node at the end of the way. */
        int revalue(int v) {
            int from = way.end;
            return copyWay(way.length, makeNode(key[from], v, weight[from], left[from], right[from]));
        }

        /** The tree of PUT with a new node; the way is that of its key, which the tree has not. */
        int plant(int k, int v, int w) {
            int above = 0;
            while (above < way.length && goesAbove(way.places[above], w, k)) {
                above++;
            }
            int lesser = NONE;
            int greater = NONE;
            for (int i = way.length - 1; i >= above; i--) {
                if (way.toRight[i]) {
                    lesser = copyTurn(i, lesser);
                } else {
                    greater = copyTurn(i, greater);
                }
            }
            return copyWay(above, makeNode(k, v, w, lesser, greater));
        }

        private int makeNode(int k, int v, int w, int l, int r) {
            if (freeCount == 0) {
                return NONE;
            }
            freeCount--;
            int place = free[freeCount];
            key[place] = k;
            value[place] = v;
            weight[place] = w;
            left[place] = l;
            right[place] = r;
            return place;
        }

        /** Whether all keys of a tree are less than all of another one. */
        boolean allLess(int tree, int other) {
            int greatest = placeAtMost(tree, Integer.MAX_VALUE);
            return !isNode(greatest) || placeAtMost(other, key[greatest]) == NONE;
        }

        /** The place of the greatest key that is not greater than k, or NONE. */
        int placeAtMost(int root, int k) {
            int best = NONE;
            int at = root;
            for (int step = 0; step < room && isNode(at); step++) {
                if (key[at] <= k) {
                    best = at;
                    at = right[at];
                } else {
                    at = left[at];
                }
            }
            return best;
        }

        /** Lists the nodes of a tree in the order of their keys, and answers how many they are. */
        int list(int root) {
            int count = 0;
            int opened = 0;
            int at = root;
            // Every node is opened once and listed once.
            for (int step = 0; step < 2 * room; step++) {
                if (isNode(at) && opened < room) {
                    open[opened] = at;
                    opened++;
                    at = left[at];
                } else if (opened > 0 && count < room) {
                    opened--;
                    listed[count] = open[opened];
                    at = right[listed[count]];
                    count++;
                } else {
                    return count;
                }
            }
            return count;
        }

        long total(int root, int low, int high) {
            int count = list(root);
            long total = 0L;
            for (int i = 0; i < count; i++) {
                int place = listed[i];
                if (key[place] >= low && key[place] <= high) {
                    total += value[place];
                }
            }
            return total;
        }

        void clearMarks() {
            for (int place = 0; place < room; place++) {
                marked[place] = false;
            }
        }

        /** Marks the nodes of a tree, and answers how many of them had no mark. */
        int markTree(int root) {
            int count = list(root);
            int added = 0;
            for (int i = 0; i < count; i++) {
                int place = listed[i];
                if (!marked[place]) {
                    marked[place] = true;
                    added++;
                }
            }
            return added;
        }

        /** Every place without a mark is free from now on. */
        void freeUnmarked() {
            freeCount = 0;
            for (int place = 0; place < room; place++) {
                if (!marked[place]) {
                    free[freeCount] = place;
                    freeCount++;
                }
            }
        }
    }
}

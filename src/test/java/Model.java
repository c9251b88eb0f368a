import java.util.ArrayList;
import java.util.Collections;
import java.util.IdentityHashMap;
import java.util.List;
import java.util.Map;
import java.util.NoSuchElementException;
import java.util.Set;

/**
 * The document once more, in its own words, with objects for nodes and no care for speed.
 * ModelTest compares the class with it; it shares no idea of how nodes are held with the class.
 */
final class Model {
    private static final class Node {
        final int key;
        final int value;
        final int weight;
        final Node left;
        final Node right;

        Node(int key, int value, int weight, Node left, Node right) {
            this.key = key;
            this.value = value;
            this.weight = weight;
            this.left = left;
            this.right = right;
        }

        boolean goesAbove(Node other) {
            return weight != other.weight ? weight > other.weight : key < other.key;
        }
    }

    private final int room;
    private final boolean[] live;
    private final Node[] trees;
    private int seed;
    private int seedAfterUpdate;
    private int fresh;
    private int used = 0;
    private int sweeps = 0;

    Model(int room, int versions, int seed) {
        this.room = room < 1 || room > 40 ? 20 : room;
        int handles = versions < 1 || versions > 8 ? 4 : versions;
        this.live = new boolean[handles];
        this.trees = new Node[handles];
        this.live[0] = true;
        this.seed = seed;
    }

    // ---- updates: the tree is made first, and thrown away if the update is refused

    int put(int version, int k, int v) {
        if (!isLive(version)) {
            return -1;
        }
        begin();
        return finish(find(trees[version], k) == null ? insert(trees[version], k, v) : replace(trees[version], k, v));
    }

    int remove(int version, int k) {
        if (!isLive(version)) {
            return -1;
        }
        begin();
        return finish(find(trees[version], k) == null ? trees[version] : without(trees[version], k));
    }

    int below(int version, int k) {
        if (!isLive(version)) {
            return -1;
        }
        begin();
        return finish(lesserPart(trees[version], k));
    }

    int join(int a, int b) {
        if (!isLive(a) || !isLive(b)) {
            return -1;
        }
        for (Node x : inOrder(trees[a])) {
            for (Node y : inOrder(trees[b])) {
                if (x.key >= y.key) {
                    return -4;
                }
            }
        }
        begin();
        return finish(joint(trees[a], trees[b]));
    }

    private void begin() {
        fresh = 0;
        seedAfterUpdate = seed;
    }

    private int finish(Node tree) {
        int handle = 0;
        while (handle < live.length && live[handle]) {
            handle++;
        }
        if (handle == live.length) {
            return -2;
        }
        if (used + fresh > room) {
            sweeps++;
            used = nodes();
        }
        if (nodes() + fresh > room) {
            return -3;
        }
        used += fresh;
        seed = seedAfterUpdate;
        live[handle] = true;
        trees[handle] = tree;
        return handle;
    }

    private Node make(int key, int value, int weight, Node left, Node right) {
        fresh++;
        return new Node(key, value, weight, left, right);
    }

    private Node copy(Node of, Node left, Node right) {
        return make(of.key, of.value, of.weight, left, right);
    }

    private int draw() {
        seedAfterUpdate = (int) (seedAfterUpdate * 1103515245L + 12345L);
        return Math.floorMod(seedAfterUpdate >> 16, 16);
    }

    private Node replace(Node t, int k, int v) {
        if (t.key == k) {
            return make(k, v, t.weight, t.left, t.right);
        }
        return t.key < k ? copy(t, t.left, replace(t.right, k, v)) : copy(t, replace(t.left, k, v), t.right);
    }

    private Node insert(Node t, int k, int v) {
        Node bare = new Node(k, v, draw(), null, null);
        return insert(t, bare);
    }

    private Node insert(Node t, Node bare) {
        if (t == null || bare.goesAbove(t)) {
            return make(bare.key, bare.value, bare.weight, lesserPart(t, bare.key), greaterPart(t, bare.key));
        }
        return t.key < bare.key ? copy(t, t.left, insert(t.right, bare)) : copy(t, insert(t.left, bare), t.right);
    }

    private Node lesserPart(Node t, int k) {
        if (t == null) {
            return null;
        }
        return t.key < k ? copy(t, t.left, lesserPart(t.right, k)) : lesserPart(t.left, k);
    }

    private Node greaterPart(Node t, int k) {
        if (t == null) {
            return null;
        }
        return t.key > k ? copy(t, greaterPart(t.left, k), t.right) : greaterPart(t.right, k);
    }

    private Node without(Node t, int k) {
        if (t.key == k) {
            return joint(t.left, t.right);
        }
        return t.key < k ? copy(t, t.left, without(t.right, k)) : copy(t, without(t.left, k), t.right);
    }

    private Node joint(Node l, Node r) {
        if (l == null) {
            return r;
        }
        if (r == null) {
            return l;
        }
        return l.goesAbove(r) ? copy(l, l.left, joint(l.right, r)) : copy(r, joint(l, r.left), r.right);
    }

    // ---- the others

    boolean drop(int version) {
        boolean was = isLive(version);
        if (was) {
            live[version] = false;
            trees[version] = null;
        }
        return was;
    }

    boolean isLive(int version) {
        return version >= 0 && version < live.length && live[version];
    }

    int get(int version, int k) {
        Node node = isLive(version) ? find(trees[version], k) : null;
        if (node == null) {
            throw new NoSuchElementException();
        }
        return node.value;
    }

    boolean contains(int version, int k) {
        return isLive(version) && find(trees[version], k) != null;
    }

    int size(int version) {
        return isLive(version) ? inOrder(trees[version]).size() : -1;
    }

    int floor(int version, int k) {
        Node best = null;
        if (isLive(version)) {
            for (Node node : inOrder(trees[version])) {
                best = node.key <= k ? node : best;
            }
        }
        if (best == null) {
            throw new NoSuchElementException();
        }
        return best.key;
    }

    int keyAt(int version, int i) {
        if (!isLive(version)) {
            throw new NoSuchElementException();
        }
        if (i < 0 || i >= inOrder(trees[version]).size()) {
            throw new IndexOutOfBoundsException();
        }
        return inOrder(trees[version]).get(i).key;
    }

    long sum(int version, int low, int high) {
        long sum = 0;
        if (isLive(version)) {
            for (Node node : inOrder(trees[version])) {
                sum += low <= node.key && node.key <= high ? node.value : 0;
            }
        }
        return sum;
    }

    int depth(int version, int k) {
        Node at = isLive(version) ? trees[version] : null;
        int above = 0;
        while (at != null && at.key != k) {
            at = at.key < k ? at.right : at.left;
            above++;
        }
        if (at == null) {
            throw new NoSuchElementException();
        }
        return above;
    }

    int shared(int a, int b) {
        if (!isLive(a) || !isLive(b)) {
            return -1;
        }
        Set<Node> both = Collections.newSetFromMap(new IdentityHashMap<>());
        both.addAll(inOrder(trees[a]));
        both.retainAll(identities(inOrder(trees[b])));
        return both.size();
    }

    int nodes() {
        Set<Node> all = Collections.newSetFromMap(new IdentityHashMap<>());
        for (int handle = 0; handle < live.length; handle++) {
            all.addAll(inOrder(trees[handle]));
        }
        return all.size();
    }

    int used() {
        return used;
    }

    int sweeps() {
        return sweeps;
    }

    /** The state in a text: two states with the same one answer the same for ever, but for how often was swept. */
    String picture() {
        StringBuilder text = new StringBuilder();
        Map<Node, Integer> numbers = new IdentityHashMap<>();
        for (int handle = 0; handle < live.length; handle++) {
            text.append(live[handle] ? "live " : "not live ");
            draw(trees[handle], numbers, text);
        }
        return text.append(used).append(' ').append(seed).toString();
    }

    /** A node is told in full where it comes first, and by its number from then on. */
    private static void draw(Node t, Map<Node, Integer> numbers, StringBuilder text) {
        if (t == null || numbers.containsKey(t)) {
            text.append(t == null ? "none " : "node " + numbers.get(t) + " ");
            return;
        }
        numbers.put(t, numbers.size());
        text.append('(').append(t.key).append(' ').append(t.value).append(' ').append(t.weight).append(' ');
        draw(t.left, numbers, text);
        draw(t.right, numbers, text);
        text.append(") ");
    }

    private static Set<Node> identities(List<Node> nodes) {
        Set<Node> set = Collections.newSetFromMap(new IdentityHashMap<>());
        set.addAll(nodes);
        return set;
    }

    private static Node find(Node t, int k) {
        if (t == null || t.key == k) {
            return t;
        }
        return find(t.key < k ? t.right : t.left, k);
    }

    private static List<Node> inOrder(Node t) {
        List<Node> nodes = new ArrayList<>();
        addInOrder(t, nodes);
        return nodes;
    }

    private static void addInOrder(Node t, List<Node> nodes) {
        if (t != null) {
            addInOrder(t.left, nodes);
            nodes.add(t);
            addInOrder(t.right, nodes);
        }
    }
}

import java.util.ArrayDeque;
import java.util.ArrayList;
import java.util.HashMap;
import java.util.List;
import java.util.Map;
import java.util.NoSuchElementException;

/**
 * All promises, in any order of calls: worlds with few places, handles and keys. From a new object on, the first
 * states that calls can lead to are looked at in full, and in each of them the updates and drops with the world's
 * handles and keys are tried, one and all. ModelTest makes long runs but picks its calls; this one makes short runs
 * and picks none. An argument tells how many states of each world are gone on from.
 */
public final class SmallWorldTest {
    private static final int MIN = Integer.MIN_VALUE;
    private static final int MAX = Integer.MAX_VALUE;
    private static final long NO_ELEMENT = 1L << 50;
    private static final long OUT_OF_BOUNDS = 1L << 51;

    private static final int MOST_STATES = 100;

    private static final int PUT = 0;
    private static final int REMOVE = 1;
    private static final int BELOW = 2;
    private static final int JOIN = 3;
    private static final int DROP = 4;
    private static final int IS_LIVE = 5;
    private static final int GET = 6;
    private static final int CONTAINS = 7;
    private static final int SIZE = 8;
    private static final int FLOOR = 9;
    private static final int KEY_AT = 10;
    private static final int SUM = 11;
    private static final int DEPTH = 12;
    private static final int SHARED = 13;
    private static final int NODES = 14;
    private static final int USED = 15;
    private static final int SWEEPS = 16;
    private static final String[] NAMES = {"put", "remove", "below", "join", "drop", "isLive", "get", "contains", "size",
        "floor", "keyAt", "sum", "depth", "shared", "nodes", "used", "sweeps"};

    private static final Call SWEEPS_ALONE = new Call(SWEEPS, 0, 0, 0);

    private record Call(int kind, int a, int b, int c) {
        @Override
        public String toString() {
            return NAMES[kind] + "(" + a + ", " + b + ", " + c + ")";
        }
    }

    private final Checks checks;
    private final int room;
    private final int versions;
    private final int seed;
    private final int[] keys;
    private final int mostStates;
    private final List<Call> changes = new ArrayList<>();
    private final List<Call> questions = new ArrayList<>();
    /** What a state is told by, and what the model answers there: asked once, since many calls lead to one state. */
    private final Map<String, long[]> answers = new HashMap<>();

    private SmallWorldTest(Checks checks, int room, int versions, int seed, int mostStates, int... keys) {
        this.checks = checks;
        this.room = room;
        this.versions = versions;
        this.seed = seed;
        this.keys = keys;
        this.mostStates = mostStates;
        fillChanges();
        fillQuestions();
    }

    public static void main(String[] args) {
        int most = args.length > 0 ? Integer.parseInt(args[0]) : MOST_STATES;
        Checks checks = new Checks();
        int[][] orders = {{1, 2, 3, 4}, {4, 3, 2, 1}, {2, 2, 2, 2}, {2, 3, 1, 3}};
        for (int[] order : orders) {
            int seed = Weights.seedLike(order);
            for (int room = 1; room <= 6; room++) {
                new SmallWorldTest(checks, room, 2, seed, most, 1, 2).look();
                new SmallWorldTest(checks, room, 3, seed, most, MIN, 0, MAX).look();
            }
            new SmallWorldTest(checks, 7, 4, seed, most, -1, 0, 1, 2).look();
            new SmallWorldTest(checks, 3, 1, seed, most, -1, 0).look();
        }
        checks.end();
    }

    private void fillChanges() {
        for (int a = 0; a < versions; a++) {
            changes.add(new Call(PUT, a, keys[0], MIN));
            for (int k : keys) {
                changes.add(new Call(PUT, a, k, 7));
                changes.add(new Call(REMOVE, a, k, 0));
                changes.add(new Call(BELOW, a, k, 0));
            }
            changes.add(new Call(BELOW, a, MAX, 0));
            for (int b = 0; b < versions; b++) {
                changes.add(new Call(JOIN, a, b, 0));
            }
            changes.add(new Call(DROP, a, 0, 0));
        }
        // No handles: what is refused for them must change nothing in any state.
        for (int kind : new int[] {PUT, REMOVE, BELOW, JOIN, DROP}) {
            changes.add(new Call(kind, versions, 0, 0));
        }
        changes.add(new Call(JOIN, 0, -1, 0));
    }

    private void fillQuestions() {
        for (int a = 0; a < versions; a++) {
            questions.add(new Call(IS_LIVE, a, 0, 0));
            questions.add(new Call(SIZE, a, 0, 0));
            for (int low = 0; low < keys.length; low++) {
                for (int kind : new int[] {GET, CONTAINS, FLOOR, DEPTH}) {
                    questions.add(new Call(kind, a, keys[low], 0));
                }
                for (int high = low; high < keys.length; high++) {
                    questions.add(new Call(SUM, a, keys[low], keys[high]));
                }
            }
            for (int i = -1; i <= keys.length; i++) {
                questions.add(new Call(KEY_AT, a, i, 0));
            }
            for (int b = 0; b < versions; b++) {
                questions.add(new Call(SHARED, a, b, 0));
            }
        }
        questions.add(new Call(IS_LIVE, versions, 0, 0));
        questions.add(new Call(NODES, 0, 0, 0));
        questions.add(new Call(USED, 0, 0, 0));
    }

    /** Goes from state to state by all calls that change one; a state is kept as the calls that lead to it. */
    private void look() {
        ArrayDeque<List<Call>> waiting = new ArrayDeque<>();
        waiting.add(List.of());
        int states = 1;
        while (!waiting.isEmpty()) {
            List<Call> calls = waiting.remove();
            for (Call change : changes) {
                List<Call> more = new ArrayList<>(calls);
                more.add(change);
                if (compare(more) && states < mostStates) {
                    waiting.add(more);
                    states++;
                }
            }
        }
    }

    /** Makes the calls on a new object and a new model, and compares all after the last; whether the state is new. */
    private boolean compare(List<Call> calls) {
        TreapVersions x = new TreapVersions(room, versions, seed);
        Model model = new Model(room, versions, seed);
        for (int i = 0; i < calls.size() - 1; i++) {
            answer(x, calls.get(i));
            answer(model, calls.get(i));
        }
        Call last = calls.get(calls.size() - 1);
        due(calls, last, answer(x, last), answer(model, last));
        due(calls, SWEEPS_ALONE, x.sweeps(), model.sweeps());
        String picture = model.picture();
        boolean isNew = !answers.containsKey(picture);
        if (isNew) {
            answers.put(picture, answersOf(model));
        }
        long[] want = answers.get(picture);
        for (int i = 0; i < want.length; i++) {
            due(calls, questions.get(i), answer(x, questions.get(i)), want[i]);
        }
        return isNew;
    }

    private long[] answersOf(Model model) {
        long[] all = new long[questions.size()];
        for (int i = 0; i < all.length; i++) {
            all[i] = answer(model, questions.get(i));
        }
        return all;
    }

    private void due(List<Call> calls, Call call, long got, long want) {
        // The text of a run is long: it is put together for wrong answers alone.
        String what = got == want ? "" : "(" + room + ", " + versions + ", " + seed + ") " + calls + ": " + call;
        checks.due(what, got, want);
    }

    private static long answer(TreapVersions x, Call call) {
        try {
            switch (call.kind) {
                case PUT: return x.put(call.a, call.b, call.c);
                case REMOVE: return x.remove(call.a, call.b);
                case BELOW: return x.below(call.a, call.b);
                case JOIN: return x.join(call.a, call.b);
                case DROP: return x.drop(call.a) ? 1 : 0;
                case IS_LIVE: return x.isLive(call.a) ? 1 : 0;
                case GET: return x.get(call.a, call.b);
                case CONTAINS: return x.contains(call.a, call.b) ? 1 : 0;
                case SIZE: return x.size(call.a);
                case FLOOR: return x.floor(call.a, call.b);
                case KEY_AT: return x.keyAt(call.a, call.b);
                case SUM: return x.sum(call.a, call.b, call.c);
                case DEPTH: return x.depth(call.a, call.b);
                case SHARED: return x.shared(call.a, call.b);
                case NODES: return x.nodes();
                case USED: return x.used();
                default: return x.sweeps();
            }
        } catch (NoSuchElementException e) {
            return NO_ELEMENT;
        } catch (IndexOutOfBoundsException e) {
            return OUT_OF_BOUNDS;
        }
    }

    private static long answer(Model x, Call call) {
        try {
            switch (call.kind) {
                case PUT: return x.put(call.a, call.b, call.c);
                case REMOVE: return x.remove(call.a, call.b);
                case BELOW: return x.below(call.a, call.b);
                case JOIN: return x.join(call.a, call.b);
                case DROP: return x.drop(call.a) ? 1 : 0;
                case IS_LIVE: return x.isLive(call.a) ? 1 : 0;
                case GET: return x.get(call.a, call.b);
                case CONTAINS: return x.contains(call.a, call.b) ? 1 : 0;
                case SIZE: return x.size(call.a);
                case FLOOR: return x.floor(call.a, call.b);
                case KEY_AT: return x.keyAt(call.a, call.b);
                case SUM: return x.sum(call.a, call.b, call.c);
                case DEPTH: return x.depth(call.a, call.b);
                case SHARED: return x.shared(call.a, call.b);
                case NODES: return x.nodes();
                case USED: return x.used();
                default: return x.sweeps();
            }
        } catch (NoSuchElementException e) {
            return NO_ELEMENT;
        } catch (IndexOutOfBoundsException e) {
            return OUT_OF_BOUNDS;
        }
    }
}

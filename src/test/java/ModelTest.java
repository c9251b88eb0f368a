import java.util.Random;
import java.util.TreeMap;

/** All promises: long runs of calls of every kind, each answer compared with the model's. */
public final class ModelTest {
    private static final int RUNS = 3000;
    private static final int CALLS = 512;
    private static final String[] UPDATES = {"put", "remove", "below", "join"};

    private final Checks checks;
    private final TreeMap<String, Integer> seen;
    private final Random random;
    private final TreapVersions x;
    private final Model model;
    private final String run;
    private final int handles;
    private final int keys;
    private final int dropsInHundred;
    private int calls = 0;

    private ModelTest(Checks checks, TreeMap<String, Integer> seen, int number) {
        this.checks = checks;
        this.seen = seen;
        // The seed is the run's number, so that every run of the test makes the same calls.
        random = new Random(number);
        int room = random.nextInt(4) == 0 ? random.nextInt(44) - 1 : 1 + random.nextInt(40);
        int versions = random.nextInt(4) == 0 ? random.nextInt(12) - 1 : 2 + random.nextInt(7);
        int seed = random.nextInt();
        handles = versions >= 1 && versions <= 8 ? versions : 4;
        x = new TreapVersions(room, versions, seed);
        model = new Model(room, versions, seed);
        run = "run " + number + " (" + room + ", " + versions + ", " + seed + ")";
        keys = 2 + random.nextInt(40);
        dropsInHundred = 8 + random.nextInt(20);
    }

    public static void main(String[] args) {
        Checks checks = new Checks();
        TreeMap<String, Integer> seen = new TreeMap<>();
        for (int number = 0; number < RUNS; number++) {
            new ModelTest(checks, seen, number).makeCalls();
        }
        System.out.println(seen);
        everythingWasSeen(checks, seen);
        checks.end();
    }

    /** The runs would prove little if some refusal never came up in them. */
    private static void everythingWasSeen(Checks checks, TreeMap<String, Integer> seen) {
        for (String update : UPDATES) {
            for (String answer : new String[] {"made", "BADVER", "NOHANDLE", "NOROOM", "swept and made"}) {
                String what = update + " " + answer;
                checks.due(what + " was seen a hundred times", seen.getOrDefault(what, 0) >= 100, true);
            }
        }
        checks.due("join MIXED was seen a hundred times", seen.getOrDefault("join MIXED", 0) >= 100, true);
    }

    private void makeCalls() {
        while (calls < CALLS) {
            int kind = random.nextInt(100);
            if (kind < (liveCount() == handles ? 40 : dropsInHundred)) {
                int version = versionToDrop();
                compare("drop(" + version + ")", x.drop(version) ? 1 : 0, model.drop(version) ? 1 : 0);
            } else if (kind < 60) {
                update(random.nextInt(6));
            } else {
                query(random.nextInt(12));
            }
        }
    }

    private int liveCount() {
        int count = 0;
        for (int version = 0; version < handles; version++) {
            count += model.isLive(version) ? 1 : 0;
        }
        return count;
    }

    private int anyVersion() {
        if (random.nextInt(50) == 0) {
            return random.nextInt();
        }
        return random.nextInt(10) == 0 ? random.nextInt(10) - 1 : liveVersion();
    }

    /** A version that is live, if a few tries find one; often the greater one of two, so that trees grow. */
    private int liveVersion() {
        int best = 0;
        int wanted = 1 + random.nextInt(2);
        int looks = 0;
        for (int tries = 0; tries < 20 && looks < wanted; tries++) {
            int version = random.nextInt(handles);
            if (model.isLive(version)) {
                best = looks == 0 || model.size(version) > model.size(best) ? version : best;
                looks++;
            }
        }
        return best;
    }

    /** Spares the greatest trees and the last version most of the time: nothing is left to do without one. */
    private int versionToDrop() {
        if (random.nextInt(100) == 0) {
            return anyVersion();
        }
        int greatest = 0;
        int chosen = -1;
        for (int version = 0; version < handles; version++) {
            if (model.isLive(version)) {
                greatest = model.size(version) >= model.size(greatest) ? version : greatest;
                chosen = chosen < 0 || random.nextInt(3) == 0 ? version : chosen;
            }
        }
        return liveCount() < 2 || chosen == greatest && random.nextInt(4) != 0 ? handles : chosen;
    }

    private int anyKey() {
        switch (random.nextInt(60)) {
            case 0: return Integer.MAX_VALUE;
            case 1: return Integer.MIN_VALUE;
            case 2: return random.nextInt();
            default: return random.nextInt(keys);
        }
    }

    /** Keys of the upper half for trees that have no others, so that there are trees to be joined. */
    private int keyFor(int version) {
        boolean upper = model.size(version) == 0 || model.size(version) > 0 && model.keyAt(version, 0) >= keys / 2;
        return upper && random.nextInt(4) != 0 ? keys / 2 + random.nextInt(keys) : anyKey();
    }

    /** A version with greater keys alone, if there is one. */
    private int versionAbove(int version) {
        int size = model.size(version);
        int first = random.nextInt(handles);
        for (int i = 0; i < handles && size > 0; i++) {
            int other = (first + i) % handles;
            if (model.size(other) > 0 && model.keyAt(other, 0) > model.keyAt(version, size - 1)) {
                return other;
            }
        }
        return anyVersion();
    }

    private void update(int kind) {
        int version = anyVersion();
        int k = keyFor(version);
        int v = random.nextInt(3) == 0 ? random.nextInt() : random.nextInt(100);
        int other = random.nextInt(4) == 0 ? anyVersion() : versionAbove(version);
        int sweepsBefore = model.sweeps();
        switch (kind) {
            case 0: case 1: case 2:
                note("put", compare("put(" + version + ", " + k + ", " + v + ")", x.put(version, k, v), model.put(version, k, v)), sweepsBefore);
                break;
            case 3:
                note("remove", compare("remove(" + version + ", " + k + ")", x.remove(version, k), model.remove(version, k)), sweepsBefore);
                break;
            case 4:
                note("below", compare("below(" + version + ", " + k + ")", x.below(version, k), model.below(version, k)), sweepsBefore);
                break;
            default:
                note("join", compare("join(" + version + ", " + other + ")", x.join(version, other), model.join(version, other)), sweepsBefore);
                break;
        }
    }

    private void note(String update, long answer, int sweepsBefore) {
        String[] refusals = {"BADVER", "NOHANDLE", "NOROOM", "MIXED"};
        String swept = model.sweeps() > sweepsBefore ? "swept and made" : "made";
        String what = update + " " + (answer < 0 ? refusals[(int) -answer - 1] : swept);
        seen.merge(what, 1, Integer::sum);
    }

    private void query(int kind) {
        int version = anyVersion();
        int other = anyVersion();
        int k = anyKey();
        int i = random.nextInt(12) - 1;
        int high = anyKey();
        switch (kind) {
            case 0: compare("isLive(" + version + ")", x.isLive(version) ? 1 : 0, model.isLive(version) ? 1 : 0); break;
            case 1: compareThrowing("get(" + version + ", " + k + ")", () -> x.get(version, k), () -> model.get(version, k)); break;
            case 2: compare("contains(" + version + ", " + k + ")", x.contains(version, k) ? 1 : 0, model.contains(version, k) ? 1 : 0); break;
            case 3: compare("size(" + version + ")", x.size(version), model.size(version)); break;
            case 4: compareThrowing("floor(" + version + ", " + k + ")", () -> x.floor(version, k), () -> model.floor(version, k)); break;
            case 5: compareThrowing("keyAt(" + version + ", " + i + ")", () -> x.keyAt(version, i), () -> model.keyAt(version, i)); break;
            case 6: compare("sum(" + version + ", " + k + ", " + high + ")", x.sum(version, k, high), model.sum(version, k, high)); break;
            case 7: compareThrowing("depth(" + version + ", " + k + ")", () -> x.depth(version, k), () -> model.depth(version, k)); break;
            case 8: compare("shared(" + version + ", " + other + ")", x.shared(version, other), model.shared(version, other)); break;
            case 9: compare("nodes()", x.nodes(), model.nodes()); break;
            case 10: compare("used()", x.used(), model.used()); break;
            default: compare("sweeps()", x.sweeps(), model.sweeps()); break;
        }
    }

    private long compare(String call, long got, long want) {
        calls++;
        checks.due(run + ", call " + calls + ": " + call, got, want);
        return want;
    }

    private void compareThrowing(String call, Checks.Call got, Checks.Call want) {
        calls++;
        checks.due(run + ", call " + calls + ": " + call, outcome(got), outcome(want));
    }

    private static String outcome(Checks.Call call) {
        try {
            return "answered " + call.answer();
        } catch (RuntimeException e) {
            return "threw " + e.getClass().getName();
        }
    }
}

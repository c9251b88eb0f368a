/** Compares answers with those that are due, prints the wrong ones and ends the program accordingly. */
final class Checks {
    interface Call {
        long answer();
    }

    private long made = 0;
    private int wrong = 0;

    void due(String call, long got, long want) {
        made++;
        if (got != want) {
            wrong++;
            System.out.println(call + " answered " + got + ", due is " + want);
        }
    }

    void due(String call, String got, String want) {
        made++;
        if (!got.equals(want)) {
            wrong++;
            System.out.println(call + " " + got + ", due is " + want);
        }
    }

    void due(String call, boolean got, boolean want) {
        due(call, got ? 1L : 0L, want ? 1L : 0L);
    }

    /** The call is to throw just this exception, not one of its subclasses. */
    void dueThrow(String call, Class<? extends RuntimeException> want, Call made) {
        this.made++;
        String got;
        try {
            got = "answered " + made.answer();
        } catch (RuntimeException e) {
            if (e.getClass() == want) {
                return;
            }
            got = "threw " + e;
        }
        wrong++;
        System.out.println(call + " " + got + ", due is " + want.getName());
    }

    /** Compares the keys of a version, in order, with those that are due. */
    void dueKeys(String what, TreapVersions x, int version, int... want) {
        due(what + ": size(" + version + ")", x.size(version), want.length);
        for (int i = 0; i < want.length && i < x.size(version); i++) {
            due(what + ": keyAt(" + version + ", " + i + ")", x.keyAt(version, i), want[i]);
        }
    }

    /** Compares the depths of keys of a version, given as key, depth, key, depth ... */
    void dueDepths(String what, TreapVersions x, int version, int... want) {
        for (int i = 0; i + 1 < want.length; i += 2) {
            String call = what + ": depth(" + version + ", " + want[i] + ")";
            due(call + " has its key", x.contains(version, want[i]), true);
            if (x.contains(version, want[i])) {
                due(call, x.depth(version, want[i]), want[i + 1]);
            }
        }
    }

    void end() {
        System.out.println(made + " answers looked at, " + wrong + " wrong");
        if (wrong != 0) {
            System.exit(1);
        }
    }
}

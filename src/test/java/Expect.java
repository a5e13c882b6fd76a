import java.util.Arrays;

/** What the tests share: telling wrong answers, and making versions to ask about. */
final class Expect {
    interface Call {
        void run();
    }

    static final int[] NO_KEYS = {-1, 256, Integer.MIN_VALUE, Integer.MAX_VALUE};

    private static int wrong = 0;

    private Expect() {
    }

    static void equal(String call, long got, long due) {
        if (got != due) {
            wrong++;
            System.out.println(call + " answered " + got + ", due is " + due);
        }
    }

    /** That the call throws just this exception and leaves every version as it was. */
    static void refused(MeldTree tree, String call, Class<? extends RuntimeException> due, Call run) {
        long[] before = state(tree);
        Class<?> got = null;
        try {
            run.run();
        } catch (RuntimeException e) {
            got = e.getClass();
        }
        if (got != due) {
            wrong++;
            System.out.println(call + " threw " + got + ", due is " + due);
        }
        if (!Arrays.equals(before, state(tree))) {
            wrong++;
            System.out.println(call + " changed the versions");
        }
    }

    /** The digests of all versions: one changes if a key or a value does. */
    static long[] state(MeldTree tree) {
        long[] digests = new long[tree.versions()];
        for (int v = 0; v < digests.length; v++) {
            digests[v] = tree.digest(v);
        }
        return digests;
    }

    /** The number of a version that has just these keys and values (key, value, key, value, ..). */
    static int table(MeldTree tree, int... keysAndValues) {
        int v = 0;
        for (int i = 0; i < keysAndValues.length; i += 2) {
            v = tree.put(v, keysAndValues[i], keysAndValues[i + 1]);
        }
        return v;
    }

    /**
     * A tree with 600 versions: the last one has key 1 with value 599. The document leaves free what calls after
     * the 512th answer, but only there can the limit of 600 be seen.
     */
    static MeldTree full() {
        MeldTree tree = new MeldTree();
        for (int v = 0; v < 599; v++) {
            tree.put(v, 1, v + 1);
        }
        return tree;
    }

    static int[] noVersions(MeldTree tree) {
        return new int[] {-1, tree.versions(), 600, Integer.MIN_VALUE, Integer.MAX_VALUE};
    }

    static void end() {
        if (wrong != 0) {
            System.out.println(wrong + " answers are not as due");
            System.exit(1);
        }
    }
}

import java.util.Arrays;

/** What the tests share: a test for each sentence of the document, and telling wrong answers. */
final class Expect {
    interface Test {
        void run() throws Exception;
    }

    interface Call {
        void on(CountedTree tree);
    }

    static final int[] NO_KEYS = {-1, 256, Integer.MIN_VALUE, Integer.MAX_VALUE};

    /** Numbers of no version of sample(), which has 0 to 4. */
    static final int[] NO_VERSIONS = {-1, 5, 6, 599, 600, Integer.MIN_VALUE, Integer.MAX_VALUE};

    private static String sentence = "";
    private static int wrong = 0;

    private Expect() {
    }

    /** Runs the test of a sentence; what it finds wrong is told with the sentence. */
    static void holds(String ofTheDocument, Test test) {
        sentence = ofTheDocument;
        try {
            test.run();
        } catch (Exception | AssertionError e) {
            tell("the test ended with " + e);
        }
    }

    static void equal(String call, long got, long due) {
        if (got != due) {
            tell(call + " answered " + got + ", due is " + due);
        }
    }

    /** That the call throws just this exception. */
    static void thrown(CountedTree tree, String call, Class<? extends RuntimeException> due, Call run) {
        Class<?> got = null;
        try {
            run.on(tree);
        } catch (RuntimeException e) {
            got = e.getClass();
        }
        if (got != due) {
            tell(call + (got == null ? " threw nothing" : " threw " + got.getName()) + ", due is " + due.getName());
        }
    }

    /** That the call on sample() throws just this exception, and that nothing is changed by it. */
    static void refused(String call, Class<? extends RuntimeException> due, Call run) {
        CountedTree tree = sample();
        long[] before = view(tree);
        thrown(tree, call, due, run);
        if (!Arrays.equals(before, view(tree))) {
            tell(call + " changed something");
        }
        equal("put(0, 1, 1) after " + call, tree.put(0, 1, 1), 5);
    }

    /** Versions 0: none, 1: 0 -> 10, 2: also 100 -> 20, 3: also 255 -> -30, 4: as 3 without 0. */
    static CountedTree sample() {
        CountedTree tree = new CountedTree();
        tree.put(0, 0, 10);
        tree.put(1, 100, 20);
        tree.put(2, 255, -30);
        tree.remove(3, 0);
        return tree;
    }

    /** What can be seen of all versions at once. */
    static long[] view(CountedTree tree) {
        int versions = tree.versions();
        long[] seen = new long[3 * versions + 1];
        for (int v = 0; v < versions; v++) {
            seen[3 * v] = tree.digest(v);
            seen[3 * v + 1] = tree.many(v, 0, 256);
            seen[3 * v + 2] = tree.sum(v, 0, 256);
        }
        seen[3 * versions] = tree.check();
        return seen;
    }

    /** The number of a version that has just these keys and values (key, value, key, value, ..). */
    static int table(CountedTree tree, int... keysAndValues) {
        int v = 0;
        for (int i = 0; i < keysAndValues.length; i += 2) {
            v = tree.put(v, keysAndValues[i], keysAndValues[i + 1]);
        }
        return v;
    }

    /** That version v has just these keys and values (key, value, key, value, .., the least key first). */
    static void has(CountedTree tree, String what, int v, int... keysAndValues) {
        int size = keysAndValues.length / 2;
        equal("many of " + what, tree.many(v, 0, 256), size);
        for (int i = 0; i < size; i++) {
            equal("select " + i + " of " + what, tree.select(v, i), keysAndValues[2 * i]);
            equal("get " + keysAndValues[2 * i] + " of " + what, tree.get(v, keysAndValues[2 * i]), keysAndValues[2 * i + 1]);
        }
    }

    static void tell(String what) {
        wrong++;
        System.out.println("[" + sentence + "] " + what);
    }

    static void end() {
        if (wrong != 0) {
            System.out.println(wrong + " answers are not as due");
            System.exit(1);
        }
    }
}

import java.util.NoSuchElementException;

/**
 * 'IllegalStateException if there are 600'. The document leaves free what calls after the 512th answer, and only those
 * can meet 600 versions; this test goes there all the same, since LANGUAGE.md (rules 6 and 7) lets no call throw by
 * itself in any state, and keeps what is kept within the document's limit (rule 12).
 */
public final class FullTest {
    private static final Class<NoSuchElementException> NO_ELEMENT = NoSuchElementException.class;
    private static final Class<IllegalStateException> FULL = IllegalStateException.class;
    private static final Class<IndexOutOfBoundsException> NO_INDEX = IndexOutOfBoundsException.class;

    private interface Call {
        void on(MeldTree tree);
    }

    public static void main(String[] args) {
        Expect.holds("Terms: there are at most 600", FullTest::makes600Versions);
        Expect.holds("2: put: IllegalStateException if there are 600", FullTest::putRefuses);
        Expect.holds("3: remove: IllegalStateException as by put", FullTest::removeRefuses);
        Expect.holds("4: join: IllegalStateException if there are 600", FullTest::joinRefuses);
        Expect.holds("1: Of several exceptions of put the one listed first", FullTest::putThrowsTheFirst);
        Expect.holds("1: Of several exceptions of remove the one listed first", FullTest::removeThrowsTheFirst);
        Expect.holds("1: Of several exceptions of join the one listed first", FullTest::joinThrowsTheFirst);
        Expect.holds("1: what throws changes nothing, with 600 versions", FullTest::changesNothing);
        Expect.holds("5 to 12: with 600 versions", FullTest::answersWhenFull);
        Expect.end();
    }

    private static void makes600Versions() {
        MeldTree tree = new MeldTree();
        for (int v = 0; v < 599; v++) {
            Expect.equal("versions()", tree.versions(), v + 1);
            Expect.equal("put(" + v + ", 1, 1)", tree.put(v, 1, 1), v + 1);
        }
        Expect.equal("versions()", tree.versions(), 600);
        refusedWhenFull(tree, "put(0, 1, 1)", FULL, t -> t.put(0, 1, 1));
        Expect.equal("versions()", tree.versions(), 600);
    }

    private static void putRefuses() {
        refused("put(0, 5, 1)", FULL, tree -> tree.put(0, 5, 1));
        refused("put(599, 1, 599), which it had", FULL, tree -> tree.put(599, 1, 599));
        takesThe600th("put(598, 5, 1)", tree -> tree.put(598, 5, 1));
    }

    private static void removeRefuses() {
        refused("remove(599, 1)", FULL, tree -> tree.remove(599, 1));
        takesThe600th("remove(598, 1)", tree -> tree.remove(598, 1));
    }

    private static void joinRefuses() {
        for (int k : new int[] {0, 1, 2, 255, 256}) {
            refused("join(0, 599, " + k + ")", FULL, tree -> tree.join(0, 599, k));
            refused("join(0, 0, " + k + ")", FULL, tree -> tree.join(0, 0, k));
            takesThe600th("join(0, 598, " + k + ")", tree -> tree.join(0, 598, k));
        }
    }

    private static void putThrowsTheFirst() {
        refused("put(600, 5, 1)", NO_INDEX, tree -> tree.put(600, 5, 1));
        refused("put(-1, 5, 1)", NO_INDEX, tree -> tree.put(-1, 5, 1));
        refused("put(0, 256, 1)", NO_INDEX, tree -> tree.put(0, 256, 1));
        refused("put(0, -1, 1)", NO_INDEX, tree -> tree.put(0, -1, 1));
    }

    private static void removeThrowsTheFirst() {
        refused("remove(600, 1)", NO_INDEX, tree -> tree.remove(600, 1));
        refused("remove(-1, 1)", NO_INDEX, tree -> tree.remove(-1, 1));
        refused("remove(599, 256)", NO_INDEX, tree -> tree.remove(599, 256));
        refused("remove(599, -1)", NO_INDEX, tree -> tree.remove(599, -1));
        refused("remove(599, 2), which it has not", FULL, tree -> tree.remove(599, 2));
        refused("remove(0, 1), which it has not", FULL, tree -> tree.remove(0, 1));
    }

    private static void joinThrowsTheFirst() {
        refused("join(600, 0, 1)", NO_INDEX, tree -> tree.join(600, 0, 1));
        refused("join(-1, 0, 1)", NO_INDEX, tree -> tree.join(-1, 0, 1));
        refused("join(0, 600, 1)", NO_INDEX, tree -> tree.join(0, 600, 1));
        refused("join(0, -1, 1)", NO_INDEX, tree -> tree.join(0, -1, 1));
        refused("join(0, 0, 257)", NO_INDEX, tree -> tree.join(0, 0, 257));
        refused("join(0, 0, -1)", NO_INDEX, tree -> tree.join(0, 0, -1));
    }

    private static void changesNothing() {
        MeldTree tree = withVersions(600);
        for (int i = 0; i < 100; i++) {
            refusedWhenFull(tree, "put(0, 5, 1)", FULL, t -> t.put(0, 5, 1));
            refusedWhenFull(tree, "remove(599, 1)", FULL, t -> t.remove(599, 1));
            refusedWhenFull(tree, "join(599, 0, 1)", FULL, t -> t.join(599, 0, 1));
        }
        Expect.equal("versions()", tree.versions(), 600);
        Expect.equal("check()", tree.check(), 0);
        Expect.equal("many(0, 0, 256)", tree.many(0, 0, 256), 0);
        for (int v = 1; v < 600; v++) {
            Expect.equal("get(" + v + ", 1)", tree.get(v, 1), v);
            Expect.equal("many(" + v + ", 0, 256)", tree.many(v, 0, 256), 1);
        }
    }

    private static void answersWhenFull() {
        MeldTree tree = withVersions(600);
        Expect.equal("get(599, 1)", tree.get(599, 1), 599);
        refusedWhenFull(tree, "get(599, 2)", NO_ELEMENT, t -> t.get(599, 2));
        refusedWhenFull(tree, "get(600, 1)", NO_INDEX, t -> t.get(600, 1));
        Expect.equal("select(599, 0)", tree.select(599, 0), 1);
        refusedWhenFull(tree, "select(600, 0)", NO_INDEX, t -> t.select(600, 0));
        Expect.equal("many(599, 0, 256)", tree.many(599, 0, 256), 1);
        refusedWhenFull(tree, "many(600, 0, 256)", NO_INDEX, t -> t.many(600, 0, 256));
        Expect.equal("sum(599, 0, 256)", tree.sum(599, 0, 256), 599);
        refusedWhenFull(tree, "sum(600, 0, 256)", NO_INDEX, t -> t.sum(600, 0, 256));
        Expect.equal("differ(598, 599)", tree.differ(598, 599), 1);
        refusedWhenFull(tree, "differ(600, 0)", NO_INDEX, t -> t.differ(600, 0));
        refusedWhenFull(tree, "differ(0, 600)", NO_INDEX, t -> t.differ(0, 600));
        Expect.equal("digest(599)", tree.digest(599), 6727 + 31 + 599);
        refusedWhenFull(tree, "digest(600)", NO_INDEX, t -> t.digest(600));
        Expect.equal("versions()", tree.versions(), 600);
        Expect.equal("check()", tree.check(), 0);
    }

    /** A tree where version v, but for 0, has key 1 with value v alone. */
    private static MeldTree withVersions(int versions) {
        MeldTree tree = new MeldTree();
        for (int v = 0; v < versions - 1; v++) {
            tree.put(v, 1, v + 1);
        }
        return tree;
    }

    private static void refused(String call, Class<? extends RuntimeException> due, Call run) {
        MeldTree tree = withVersions(600);
        refusedWhenFull(tree, call, due, run);
        Expect.equal("versions() after " + call, tree.versions(), 600);
    }

    private static void refusedWhenFull(MeldTree tree, String call, Class<? extends RuntimeException> due, Call run) {
        Class<?> got = null;
        try {
            run.on(tree);
        } catch (RuntimeException e) {
            got = e.getClass();
        }
        if (got != due) {
            Expect.tell(call + " with 600 versions threw " + got + ", due is " + due);
        }
    }

    private static void takesThe600th(String call, Call run) {
        MeldTree tree = withVersions(599);
        run.on(tree);
        Expect.equal("versions() after " + call + " with 599", tree.versions(), 600);
    }
}

import java.util.NoSuchElementException;

/** Promise 2: put. */
public final class PutTest {
    public static void main(String[] args) {
        makesVersionsAndChangesNone();
        takesEdges();
        refusesWrongInput();
        refusesTheVersionAfter600();
        Expect.end();
    }

    private static void makesVersionsAndChangesNone() {
        MeldTree tree = new MeldTree();
        Expect.equal("put(0, 5, 7)", tree.put(0, 5, 7), 1);
        Expect.equal("put(1, 9, 8)", tree.put(1, 9, 8), 2);
        Expect.equal("put(2, 5, 70)", tree.put(2, 5, 70), 3);
        Expect.equal("put(3, 5, 70), which it had", tree.put(3, 5, 70), 4);
        Expect.equal("put(0, 5, 1), beside version 1", tree.put(0, 5, 1), 5);
        Expect.equal("get(1, 5)", tree.get(1, 5), 7);
        Expect.equal("get(2, 5)", tree.get(2, 5), 7);
        Expect.equal("get(2, 9)", tree.get(2, 9), 8);
        Expect.equal("get(3, 5)", tree.get(3, 5), 70);
        Expect.equal("get(3, 9)", tree.get(3, 9), 8);
        Expect.equal("differ(3, 4)", tree.differ(3, 4), 0);
        Expect.equal("get(5, 5)", tree.get(5, 5), 1);
        Expect.equal("many(5, 0, 256)", tree.many(5, 0, 256), 1);
        Expect.equal("many(3, 0, 256)", tree.many(3, 0, 256), 2);
        Expect.equal("many(0, 0, 256)", tree.many(0, 0, 256), 0);
        Expect.refused(tree, "get(1, 9)", NoSuchElementException.class, () -> tree.get(1, 9));
    }

    private static void takesEdges() {
        MeldTree tree = new MeldTree();
        int v = Expect.table(tree, 0, Integer.MIN_VALUE, 255, Integer.MAX_VALUE, 127, 0, 128, -1);
        Expect.equal("get(v, 0)", tree.get(v, 0), Integer.MIN_VALUE);
        Expect.equal("get(v, 255)", tree.get(v, 255), Integer.MAX_VALUE);
        Expect.equal("get(v, 127)", tree.get(v, 127), 0);
        Expect.equal("get(v, 128)", tree.get(v, 128), -1);
        Expect.equal("many(v, 0, 256)", tree.many(v, 0, 256), 4);
    }

    private static void refusesWrongInput() {
        MeldTree tree = new MeldTree();
        tree.put(0, 5, 7);
        for (int v : Expect.noVersions(tree)) {
            Expect.refused(tree, "put(" + v + ", 5, 1)", IndexOutOfBoundsException.class, () -> tree.put(v, 5, 1));
        }
        for (int k : Expect.NO_KEYS) {
            Expect.refused(tree, "put(1, " + k + ", 1)", IndexOutOfBoundsException.class, () -> tree.put(1, k, 1));
        }
        Expect.equal("put(1, 6, 1) after refusals", tree.put(1, 6, 1), 2);
    }

    private static void refusesTheVersionAfter600() {
        MeldTree tree = Expect.full();
        Expect.equal("versions()", tree.versions(), 600);
        Expect.equal("get(599, 1)", tree.get(599, 1), 599);
        Expect.refused(tree, "put when full", IllegalStateException.class, () -> tree.put(0, 5, 1));
        Expect.refused(tree, "put(600, 5, 1) when full", IndexOutOfBoundsException.class, () -> tree.put(600, 5, 1));
        Expect.refused(tree, "put(0, 256, 1) when full", IndexOutOfBoundsException.class, () -> tree.put(0, 256, 1));
        Expect.equal("check() when full", tree.check(), 0);
    }
}

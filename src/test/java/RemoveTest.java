import java.util.NoSuchElementException;

/** Promise 3: remove. */
public final class RemoveTest {
    public static void main(String[] args) {
        takesOneKeyAway();
        refusesWrongInput();
        refusesInTheListedOrder();
        Expect.end();
    }

    private static void takesOneKeyAway() {
        MeldTree tree = new MeldTree();
        int v = Expect.table(tree, 0, 10, 1, 11, 128, 12, 255, 13);
        int[] keys = {0, 1, 128, 255};
        for (int i = 0; i < keys.length; i++) {
            int k = keys[i];
            int without = tree.remove(v, k);
            Expect.equal("remove(v, " + k + ")", without, 5 + i);
            Expect.equal("many without " + k, tree.many(without, 0, 256), 3);
            Expect.equal("many of " + k, tree.many(without, k, k + 1), 0);
            Expect.equal("sum without " + k, tree.sum(without, 0, 256), 46 - 10 - i);
            Expect.equal("differ without " + k, tree.differ(v, without), 1);
            Expect.equal("get(v, " + k + ") afterwards", tree.get(v, k), 10 + i);
            Expect.refused(tree, "remove " + k + " twice", NoSuchElementException.class, () -> tree.remove(without, k));
        }
        int single = tree.put(0, 77, 1);
        int none = tree.remove(single, 77);
        Expect.equal("digest without the last key", tree.digest(none), 7);
        Expect.equal("differ without the last key", tree.differ(0, none), 0);
        Expect.equal("check()", tree.check(), 0);
    }

    private static void refusesWrongInput() {
        MeldTree tree = new MeldTree();
        tree.put(0, 5, 7);
        for (int v : Expect.noVersions(tree)) {
            Expect.refused(tree, "remove(" + v + ", 5)", IndexOutOfBoundsException.class, () -> tree.remove(v, 5));
        }
        for (int k : Expect.NO_KEYS) {
            Expect.refused(tree, "remove(1, " + k + ")", IndexOutOfBoundsException.class, () -> tree.remove(1, k));
        }
        Expect.refused(tree, "remove(1, 4)", NoSuchElementException.class, () -> tree.remove(1, 4));
        Expect.refused(tree, "remove(0, 5)", NoSuchElementException.class, () -> tree.remove(0, 5));
        Expect.equal("remove(1, 5) after refusals", tree.remove(1, 5), 2);
    }

    private static void refusesInTheListedOrder() {
        MeldTree tree = Expect.full();
        Expect.refused(tree, "remove(599, 1) when full", IllegalStateException.class, () -> tree.remove(599, 1));
        Expect.refused(tree, "remove(599, 2) when full", IllegalStateException.class, () -> tree.remove(599, 2));
        Expect.refused(tree, "remove(600, 1) when full", IndexOutOfBoundsException.class, () -> tree.remove(600, 1));
        Expect.refused(tree, "remove(599, 256) when full", IndexOutOfBoundsException.class, () -> tree.remove(599, 256));
    }
}

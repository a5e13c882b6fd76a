/** Promise 6: select. */
public final class SelectTest {
    private static final Class<IndexOutOfBoundsException> NO_INDEX = IndexOutOfBoundsException.class;

    public static void main(String[] args) {
        Expect.holds("6: The i-th KEY of v (0 the least)", SelectTest::answersTheKeysInOrder);
        Expect.holds("6: The i-th KEY of that VERSION", SelectTest::answersOfThatVersion);
        Expect.holds("6: The i-th KEY of 256", SelectTest::answersAllKeys);
        Expect.holds("6: IndexOutOfBoundsException if there is no VERSION v", SelectTest::refusesNoVersion);
        Expect.holds("6: IndexOutOfBoundsException if there is no such KEY (i too small)", SelectTest::refusesTooSmall);
        Expect.holds("6: IndexOutOfBoundsException if there is no such KEY (i too large)", SelectTest::refusesTooLarge);
        Expect.holds("6: IndexOutOfBoundsException if there is no such KEY (no KEYS)", SelectTest::refusesOfNoKeys);
        Expect.holds("6: IndexOutOfBoundsException if there is no such KEY (all KEYS)", SelectTest::refusesBeyondAll);
        Expect.end();
    }

    private static void answersTheKeysInOrder() {
        CountedTree tree = new CountedTree();
        int v = Expect.table(tree, 200, 1, 0, 2, 255, 3, 127, 4, 128, 5, 3, 6);
        int[] due = {0, 3, 127, 128, 200, 255};
        for (int i = 0; i < due.length; i++) {
            Expect.equal("select(v, " + i + ")", tree.select(v, i), due[i]);
        }
    }

    private static void answersOfThatVersion() {
        CountedTree tree = Expect.sample();
        Expect.equal("select(1, 0)", tree.select(1, 0), 0);
        Expect.equal("select(3, 0)", tree.select(3, 0), 0);
        Expect.equal("select(4, 0)", tree.select(4, 0), 100);
        Expect.equal("select(3, 2)", tree.select(3, 2), 255);
        Expect.equal("select(4, 1)", tree.select(4, 1), 255);
    }

    private static void answersAllKeys() {
        CountedTree tree = new CountedTree();
        int all = 0;
        for (int k = 255; k >= 0; k--) {
            all = tree.put(all, k, 0);
        }
        for (int i = 0; i < 256; i++) {
            Expect.equal("select(all, " + i + ")", tree.select(all, i), i);
        }
    }

    private static void refusesNoVersion() {
        for (int v : Expect.NO_VERSIONS) {
            Expect.refused("select(" + v + ", 0)", NO_INDEX, tree -> tree.select(v, 0));
        }
    }

    private static void refusesTooSmall() {
        for (int i : new int[] {-1, -2, -256, Integer.MIN_VALUE}) {
            Expect.refused("select(3, " + i + ")", NO_INDEX, tree -> tree.select(3, i));
        }
    }

    private static void refusesTooLarge() {
        for (int i : new int[] {3, 4, 100, 255, 256, Integer.MAX_VALUE}) {
            Expect.refused("select(3, " + i + ")", NO_INDEX, tree -> tree.select(3, i));
        }
        Expect.refused("select(1, 1)", NO_INDEX, tree -> tree.select(1, 1));
        Expect.refused("select(4, 2)", NO_INDEX, tree -> tree.select(4, 2));
    }

    private static void refusesOfNoKeys() {
        for (int i : new int[] {0, -1, 1, 255}) {
            Expect.refused("select(0, " + i + ")", NO_INDEX, tree -> tree.select(0, i));
        }
        CountedTree tree = Expect.sample();
        int none = tree.remove(1, 0);
        Expect.thrown(tree, "select of a version whose only key was removed", NO_INDEX, t -> t.select(none, 0));
    }

    private static void refusesBeyondAll() {
        CountedTree tree = new CountedTree();
        for (int k = 0; k < 256; k++) {
            tree.put(k, k, 1);
        }
        Expect.equal("select(256, 255)", tree.select(256, 255), 255);
        for (int i : new int[] {-1, 256, 257, Integer.MIN_VALUE, Integer.MAX_VALUE}) {
            Expect.thrown(tree, "select(256, " + i + ")", NO_INDEX, t -> t.select(256, i));
        }
    }
}

import java.util.NoSuchElementException;

/** Promise 5: get. */
public final class GetTest {
    private static final Class<NoSuchElementException> NO_ELEMENT = NoSuchElementException.class;
    private static final Class<IndexOutOfBoundsException> NO_INDEX = IndexOutOfBoundsException.class;

    public static void main(String[] args) {
        Expect.holds("5: The VALUE of KEY k in v", GetTest::answersTheValueInThatVersion);
        Expect.holds("5: The VALUE of each of 256 KEYS", GetTest::answersAllValues);
        Expect.holds("5: a VALUE at the edges", GetTest::answersEdgeValues);
        Expect.holds("5: IndexOutOfBoundsException if there is no VERSION v", GetTest::refusesNoVersion);
        Expect.holds("5: IndexOutOfBoundsException if there is no KEY k", GetTest::refusesNoKey);
        Expect.holds("5: NoSuchElementException if v has it not", GetTest::refusesAKeyThatItHasNot);
        Expect.end();
    }

    private static void answersTheValueInThatVersion() {
        CountedTree tree = Expect.sample();
        int other = tree.put(3, 100, 21);
        Expect.equal("get(2, 100)", tree.get(2, 100), 20);
        Expect.equal("get(3, 100)", tree.get(3, 100), 20);
        Expect.equal("get(other, 100)", tree.get(other, 100), 21);
        Expect.equal("get(other, 0)", tree.get(other, 0), 10);
        Expect.equal("get(4, 255)", tree.get(4, 255), -30);
    }

    private static void answersAllValues() {
        CountedTree tree = new CountedTree();
        int all = 0;
        for (int k = 0; k < 256; k++) {
            all = tree.put(all, k, 1000 - 7 * k);
        }
        for (int k = 0; k < 256; k++) {
            Expect.equal("get(all, " + k + ")", tree.get(all, k), 1000 - 7 * k);
        }
    }

    private static void answersEdgeValues() {
        CountedTree tree = new CountedTree();
        int v = Expect.table(tree, 0, Integer.MIN_VALUE, 1, -1, 2, 0, 255, Integer.MAX_VALUE);
        Expect.equal("get(v, 0)", tree.get(v, 0), Integer.MIN_VALUE);
        Expect.equal("get(v, 1)", tree.get(v, 1), -1);
        Expect.equal("get(v, 2)", tree.get(v, 2), 0);
        Expect.equal("get(v, 255)", tree.get(v, 255), Integer.MAX_VALUE);
    }

    private static void refusesNoVersion() {
        for (int v : Expect.NO_VERSIONS) {
            Expect.refused("get(" + v + ", 0)", NO_INDEX, tree -> tree.get(v, 0));
            Expect.refused("get(" + v + ", 1), which none has", NO_INDEX, tree -> tree.get(v, 1));
        }
    }

    private static void refusesNoKey() {
        for (int k : Expect.NO_KEYS) {
            Expect.refused("get(3, " + k + ")", NO_INDEX, tree -> tree.get(3, k));
            Expect.refused("get(0, " + k + ")", NO_INDEX, tree -> tree.get(0, k));
        }
    }

    private static void refusesAKeyThatItHasNot() {
        for (int k : new int[] {1, 99, 101, 127, 128, 254}) {
            Expect.refused("get(3, " + k + ")", NO_ELEMENT, tree -> tree.get(3, k));
        }
        Expect.refused("get(0, 0), which 1 has", NO_ELEMENT, tree -> tree.get(0, 0));
        Expect.refused("get(1, 100), which 2 has", NO_ELEMENT, tree -> tree.get(1, 100));
        Expect.refused("get(4, 0), which 3 has", NO_ELEMENT, tree -> tree.get(4, 0));
    }
}

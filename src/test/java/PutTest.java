import java.util.NoSuchElementException;

/** Promise 2: put. Where there are 600 versions: FullTest. */
public final class PutTest {
    private static final Class<NoSuchElementException> NO_ELEMENT = NoSuchElementException.class;
    private static final Class<IndexOutOfBoundsException> NO_INDEX = IndexOutOfBoundsException.class;

    public static void main(String[] args) {
        Expect.holds("2: A VERSION as v, but KEY k has VALUE x", PutTest::asTheOlderOneButOneKey);
        Expect.holds("2: KEY k at the edges", PutTest::putsEdgeKeys);
        Expect.holds("2: also if it had it (the KEY)", PutTest::putsAKeyThatItHad);
        Expect.holds("2: also if it had it (the KEY with this VALUE)", PutTest::putsAValueThatItHad);
        Expect.holds("2: all 256 KEYS, and one of them again", PutTest::putsAllKeys);
        Expect.holds("2: its number", PutTest::answersTheNumber);
        Expect.holds("2: IndexOutOfBoundsException if there is no VERSION v", PutTest::refusesNoVersion);
        Expect.holds("2: the newest VERSION is one", PutTest::takesTheNewestVersion);
        Expect.holds("2: IndexOutOfBoundsException if there is no KEY k", PutTest::refusesNoKey);
        Expect.end();
    }

    private static void asTheOlderOneButOneKey() {
        CountedTree tree = Expect.sample();
        Expect.has(tree, "put(0, 50, 5)", tree.put(0, 50, 5), 50, 5);
        Expect.has(tree, "put(3, 50, 5)", tree.put(3, 50, 5), 0, 10, 50, 5, 100, 20, 255, -30);
        Expect.has(tree, "version 3 afterwards", 3, 0, 10, 100, 20, 255, -30);
        Expect.thrown(tree, "get(3, 50)", NO_ELEMENT, t -> t.get(3, 50));
    }

    private static void putsEdgeKeys() {
        CountedTree tree = new CountedTree();
        int v = Expect.table(tree, 255, 4, 0, 1, 128, 3, 127, 2);
        Expect.has(tree, "the edges", v, 0, 1, 127, 2, 128, 3, 255, 4);
    }

    private static void putsAKeyThatItHad() {
        CountedTree tree = Expect.sample();
        Expect.has(tree, "put(3, 0, 11)", tree.put(3, 0, 11), 0, 11, 100, 20, 255, -30);
        Expect.has(tree, "put(3, 100, 0)", tree.put(3, 100, 0), 0, 10, 100, 0, 255, -30);
        Expect.has(tree, "put(3, 255, 30)", tree.put(3, 255, 30), 0, 10, 100, 20, 255, 30);
        Expect.equal("sum(6, 0, 256)", tree.sum(6, 0, 256), -20);
    }

    private static void putsAValueThatItHad() {
        CountedTree tree = Expect.sample();
        Expect.equal("put(3, 100, 20)", tree.put(3, 100, 20), 5);
        Expect.equal("put(3, 100, 20) again", tree.put(3, 100, 20), 6);
        Expect.equal("versions()", tree.versions(), 7);
        Expect.has(tree, "version 5", 5, 0, 10, 100, 20, 255, -30);
        Expect.has(tree, "version 6", 6, 0, 10, 100, 20, 255, -30);
    }

    private static void putsAllKeys() {
        CountedTree tree = new CountedTree();
        int all = 0;
        for (int i = 0; i < 256; i++) {
            all = tree.put(all, i * 37 & 255, i);
        }
        Expect.equal("many(all, 0, 256)", tree.many(all, 0, 256), 256);
        Expect.equal("sum(all, 0, 256)", tree.sum(all, 0, 256), 255 * 128);
        int again = tree.put(all, 255, -1);
        Expect.equal("many of all, one again", tree.many(again, 0, 256), 256);
        Expect.equal("get of the one again", tree.get(again, 255), -1);
        Expect.equal("differ of all, one again", tree.differ(all, again), 1);
    }

    private static void answersTheNumber() {
        CountedTree tree = new CountedTree();
        Expect.equal("put(0, 5, 7)", tree.put(0, 5, 7), 1);
        Expect.equal("put(1, 9, 8)", tree.put(1, 9, 8), 2);
        Expect.equal("put(0, 5, 7), of an older version", tree.put(0, 5, 7), 3);
        Expect.equal("put(2, 5, 7), which it had", tree.put(2, 5, 7), 4);
    }

    private static void refusesNoVersion() {
        for (int v : Expect.NO_VERSIONS) {
            Expect.refused("put(" + v + ", 0, 1)", NO_INDEX, tree -> tree.put(v, 0, 1));
        }
        Expect.thrown(new CountedTree(), "put(1, 0, 1) at first", NO_INDEX, tree -> tree.put(1, 0, 1));
    }

    private static void takesTheNewestVersion() {
        Expect.equal("put(4, 0, 1)", Expect.sample().put(4, 0, 1), 5);
        Expect.equal("put(0, 0, 1) at first", new CountedTree().put(0, 0, 1), 1);
    }

    private static void refusesNoKey() {
        for (int k : Expect.NO_KEYS) {
            Expect.refused("put(3, " + k + ", 1)", NO_INDEX, tree -> tree.put(3, k, 1));
            Expect.refused("put(5, " + k + ", 1)", NO_INDEX, tree -> tree.put(5, k, 1));
        }
    }
}

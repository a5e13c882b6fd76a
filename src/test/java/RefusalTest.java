import java.util.NoSuchElementException;

/** What promise 1 says of exceptions. Where there are 600 versions: FullTest. */
public final class RefusalTest {
    private static final Class<NoSuchElementException> NO_ELEMENT = NoSuchElementException.class;
    private static final Class<IndexOutOfBoundsException> NO_INDEX = IndexOutOfBoundsException.class;

    public static void main(String[] args) {
        Expect.holds("1: Of several exceptions of a call the one listed first is thrown", RefusalTest::listedFirst);
        Expect.holds("1: what throws changes nothing", RefusalTest::changesNothing);
        Expect.holds("1: what throws changes nothing, many times", RefusalTest::changesNothingManyTimes);
        Expect.end();
    }

    private static void listedFirst() {
        Expect.refused("get(0, 256), no key and not in 0", NO_INDEX, tree -> tree.get(0, 256));
        Expect.refused("get(3, -1), no key and not in 3", NO_INDEX, tree -> tree.get(3, -1));
        Expect.refused("get(5, 1), no version and no such key", NO_INDEX, tree -> tree.get(5, 1));
        Expect.refused("get(-1, 256)", NO_INDEX, tree -> tree.get(-1, 256));
        Expect.refused("remove(0, 256), no key and not in 0", NO_INDEX, tree -> tree.remove(0, 256));
        Expect.refused("remove(3, -1), no key and not in 3", NO_INDEX, tree -> tree.remove(3, -1));
        Expect.refused("remove(5, 1), no version and no such key", NO_INDEX, tree -> tree.remove(5, 1));
        Expect.refused("remove(-1, 256)", NO_INDEX, tree -> tree.remove(-1, 256));
    }

    /** Each call that can throw, once for each thing that it refuses; refused looks for changes. */
    private static void changesNothing() {
        Expect.refused("put(5, 1, 1)", NO_INDEX, tree -> tree.put(5, 1, 1));
        Expect.refused("put(3, 256, 1)", NO_INDEX, tree -> tree.put(3, 256, 1));
        Expect.refused("remove(5, 0)", NO_INDEX, tree -> tree.remove(5, 0));
        Expect.refused("remove(3, 256)", NO_INDEX, tree -> tree.remove(3, 256));
        Expect.refused("remove(3, 1)", NO_ELEMENT, tree -> tree.remove(3, 1));
        Expect.refused("join(5, 3, 1)", NO_INDEX, tree -> tree.join(5, 3, 1));
        Expect.refused("join(3, 5, 1)", NO_INDEX, tree -> tree.join(3, 5, 1));
        Expect.refused("join(3, 4, 257)", NO_INDEX, tree -> tree.join(3, 4, 257));
        Expect.refused("get(5, 0)", NO_INDEX, tree -> tree.get(5, 0));
        Expect.refused("get(3, 256)", NO_INDEX, tree -> tree.get(3, 256));
        Expect.refused("get(3, 1)", NO_ELEMENT, tree -> tree.get(3, 1));
        Expect.refused("select(5, 0)", NO_INDEX, tree -> tree.select(5, 0));
        Expect.refused("select(3, 3)", NO_INDEX, tree -> tree.select(3, 3));
        Expect.refused("many(5, 0, 256)", NO_INDEX, tree -> tree.many(5, 0, 256));
        Expect.refused("sum(5, 0, 256)", NO_INDEX, tree -> tree.sum(5, 0, 256));
        Expect.refused("differ(5, 0)", NO_INDEX, tree -> tree.differ(5, 0));
        Expect.refused("differ(0, 5)", NO_INDEX, tree -> tree.differ(0, 5));
        Expect.refused("digest(5)", NO_INDEX, tree -> tree.digest(5));
    }

    private static void changesNothingManyTimes() {
        CountedTree tree = Expect.sample();
        for (int i = 0; i < 150; i++) {
            Expect.thrown(tree, "put(5, 1, 1)", NO_INDEX, t -> t.put(5, 1, 1));
            Expect.thrown(tree, "remove(3, 1)", NO_ELEMENT, t -> t.remove(3, 1));
            Expect.thrown(tree, "join(3, 4, 257)", NO_INDEX, t -> t.join(3, 4, 257));
        }
        Expect.equal("versions()", tree.versions(), 5);
        Expect.equal("check()", tree.check(), 0);
        Expect.equal("put(3, 1, 2)", tree.put(3, 1, 2), 5);
        Expect.has(tree, "version 5", 5, 0, 10, 1, 2, 100, 20, 255, -30);
    }
}

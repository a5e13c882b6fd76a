import java.util.NoSuchElementException;

/** 'What it is', 'Terms' and promise 1: a new object. What the last says of exceptions: RefusalTest. */
public final class NewObjectTest {
    private static final Class<NoSuchElementException> NO_ELEMENT = NoSuchElementException.class;
    private static final Class<IndexOutOfBoundsException> NO_INDEX = IndexOutOfBoundsException.class;

    public static void main(String[] args) {
        Expect.holds("1: VERSION 0 alone", NewObjectTest::versionZeroAlone);
        Expect.holds("1: each object has versions of its own", NewObjectTest::objectsShareNothing);
        Expect.holds("Terms: VERSION 0 has no KEYS", NewObjectTest::versionZeroHasNoKeys);
        Expect.holds("Terms: VERSION 0 has no KEYS, also later", NewObjectTest::versionZeroGetsNoKeys);
        Expect.holds("What it is: KEYS (0 to 255)", NewObjectTest::keysAre0To255);
        Expect.holds("What it is: VALUES (ints)", NewObjectTest::valuesAreAnyInts);
        Expect.holds("What it is: each comes of older ones", NewObjectTest::comesOfAnyOlderOne);
        Expect.holds("What it is: none ever changes", NewObjectTest::noneEverChanges);
        Expect.end();
    }

    private static void versionZeroAlone() {
        Expect.equal("versions()", new CountedTree().versions(), 1);
        Expect.equal("digest(0)", new CountedTree().digest(0), 7);
        for (int v : new int[] {-1, 1, 2, 599, 600, Integer.MIN_VALUE, Integer.MAX_VALUE}) {
            Expect.thrown(new CountedTree(), "digest(" + v + ")", NO_INDEX, tree -> tree.digest(v));
        }
    }

    private static void objectsShareNothing() {
        CountedTree one = new CountedTree();
        CountedTree other = new CountedTree();
        one.put(0, 3, 4);
        Expect.equal("versions() of the other object", other.versions(), 1);
        Expect.equal("put(0, 5, 6) of the other object", other.put(0, 5, 6), 1);
        Expect.has(one, "version 1 of the one object", 1, 3, 4);
        Expect.has(other, "version 1 of the other object", 1, 5, 6);
    }

    private static void versionZeroHasNoKeys() {
        CountedTree tree = new CountedTree();
        Expect.equal("many(0, 0, 256)", tree.many(0, 0, 256), 0);
        Expect.equal("sum(0, 0, 256)", tree.sum(0, 0, 256), 0);
        Expect.equal("digest(0)", tree.digest(0), 7);
        Expect.equal("differ(0, 0)", tree.differ(0, 0), 0);
        Expect.thrown(tree, "select(0, 0)", NO_INDEX, t -> t.select(0, 0));
        for (int k = 0; k < 256; k++) {
            int key = k;
            Expect.thrown(tree, "get(0, " + k + ")", NO_ELEMENT, t -> t.get(0, key));
        }
    }

    private static void versionZeroGetsNoKeys() {
        CountedTree tree = Expect.sample();
        tree.put(0, 100, 1);
        tree.join(0, 3, 0);
        tree.join(3, 0, 256);
        Expect.has(tree, "version 0", 0);
        Expect.thrown(tree, "get(0, 100)", NO_ELEMENT, t -> t.get(0, 100));
    }

    private static void keysAre0To255() {
        for (int k : new int[] {0, 1, 127, 128, 254, 255}) {
            CountedTree tree = new CountedTree();
            Expect.equal("put(0, " + k + ", 5)", tree.put(0, k, 5), 1);
            Expect.has(tree, "version 1", 1, k, 5);
            Expect.equal("remove(1, " + k + ")", tree.remove(1, k), 2);
            Expect.has(tree, "version 2", 2);
        }
        for (int k : Expect.NO_KEYS) {
            Expect.refused("put(0, " + k + ", 5)", NO_INDEX, tree -> tree.put(0, k, 5));
            Expect.refused("remove(3, " + k + ")", NO_INDEX, tree -> tree.remove(3, k));
            Expect.refused("get(3, " + k + ")", NO_INDEX, tree -> tree.get(3, k));
        }
    }

    private static void valuesAreAnyInts() {
        for (int x : new int[] {0, 1, -1, Integer.MAX_VALUE, Integer.MIN_VALUE}) {
            CountedTree tree = new CountedTree();
            tree.put(0, 7, x);
            Expect.equal("get(1, 7) of value " + x, tree.get(1, 7), x);
            Expect.equal("many(1, 0, 256) of value " + x, tree.many(1, 0, 256), 1);
            Expect.equal("sum(1, 0, 256) of value " + x, tree.sum(1, 0, 256), x);
        }
    }

    private static void comesOfAnyOlderOne() {
        CountedTree tree = Expect.sample();
        Expect.has(tree, "a put into version 1", tree.put(1, 50, 5), 0, 10, 50, 5);
        Expect.has(tree, "a remove from version 2", tree.remove(2, 0), 100, 20);
        Expect.has(tree, "a join of versions 4 and 1", tree.join(4, 1, 200), 100, 20);
        Expect.has(tree, "a join of versions 1 and 4", tree.join(1, 4, 200), 0, 10, 255, -30);
    }

    private static void noneEverChanges() {
        CountedTree tree = Expect.sample();
        tree.put(3, 100, 21);
        tree.put(3, 101, 22);
        tree.remove(3, 255);
        tree.remove(2, 100);
        tree.join(3, 0, 100);
        tree.join(0, 3, 100);
        tree.join(1, 4, 1);
        Expect.has(tree, "version 0", 0);
        Expect.has(tree, "version 1", 1, 0, 10);
        Expect.has(tree, "version 2", 2, 0, 10, 100, 20);
        Expect.has(tree, "version 3", 3, 0, 10, 100, 20, 255, -30);
        Expect.has(tree, "version 4", 4, 100, 20, 255, -30);
    }
}

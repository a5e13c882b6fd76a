import java.util.NoSuchElementException;

/** Promise 3: remove. Where there are 600 versions: FullTest. */
public final class RemoveTest {
    private static final Class<NoSuchElementException> NO_ELEMENT = NoSuchElementException.class;
    private static final Class<IndexOutOfBoundsException> NO_INDEX = IndexOutOfBoundsException.class;

    public static void main(String[] args) {
        Expect.holds("3: A VERSION as v without KEY k", RemoveTest::takesOneKeyAway);
        Expect.holds("3: without its only KEY", RemoveTest::takesTheOnlyKeyAway);
        Expect.holds("3: KEYS taken away until there is none", RemoveTest::takesManyKeysAway);
        Expect.holds("3: its number", RemoveTest::answersTheNumber);
        Expect.holds("3: IndexOutOfBoundsException as by put: no VERSION v", RemoveTest::refusesNoVersion);
        Expect.holds("3: IndexOutOfBoundsException as by put: no KEY k", RemoveTest::refusesNoKey);
        Expect.holds("3: NoSuchElementException if v has not this KEY", RemoveTest::refusesAKeyThatItHasNot);
        Expect.holds("3: NoSuchElementException, last", RemoveTest::refusesThatLast);
        Expect.end();
    }

    private static void takesOneKeyAway() {
        CountedTree tree = Expect.sample();
        Expect.has(tree, "remove(3, 0)", tree.remove(3, 0), 100, 20, 255, -30);
        Expect.has(tree, "remove(3, 100)", tree.remove(3, 100), 0, 10, 255, -30);
        Expect.has(tree, "remove(3, 255)", tree.remove(3, 255), 0, 10, 100, 20);
        Expect.has(tree, "version 3 afterwards", 3, 0, 10, 100, 20, 255, -30);
        Expect.thrown(tree, "get(5, 0)", NO_ELEMENT, t -> t.get(5, 0));
        Expect.equal("sum(7, 0, 256)", tree.sum(7, 0, 256), 30);
    }

    private static void takesTheOnlyKeyAway() {
        CountedTree tree = Expect.sample();
        int none = tree.remove(1, 0);
        Expect.equal("remove(1, 0)", none, 5);
        Expect.has(tree, "remove(1, 0)", none);
        Expect.equal("digest", tree.digest(none), 7);
        Expect.equal("differ(0, none)", tree.differ(0, none), 0);
        Expect.equal("check()", tree.check(), 0);
        Expect.has(tree, "put into it", tree.put(none, 9, 9), 9, 9);
    }

    private static void takesManyKeysAway() {
        CountedTree tree = new CountedTree();
        int v = 0;
        for (int i = 0; i < 120; i++) {
            v = tree.put(v, i * 37 & 255, 1);
        }
        for (int i = 0; i < 120; i++) {
            v = tree.remove(v, i * 37 & 255);
            Expect.equal("many after " + (i + 1) + " removes", tree.many(v, 0, 256), 119 - i);
            Expect.equal("sum after " + (i + 1) + " removes", tree.sum(v, 0, 256), 119 - i);
        }
        Expect.equal("digest at the end", tree.digest(v), 7);
        Expect.equal("check() at the end", tree.check(), 0);
    }

    private static void answersTheNumber() {
        CountedTree tree = Expect.sample();
        Expect.equal("remove(3, 255)", tree.remove(3, 255), 5);
        Expect.equal("remove(5, 100)", tree.remove(5, 100), 6);
        Expect.equal("remove(3, 255), of an older version", tree.remove(3, 255), 7);
        Expect.equal("versions()", tree.versions(), 8);
    }

    private static void refusesNoVersion() {
        for (int v : Expect.NO_VERSIONS) {
            Expect.refused("remove(" + v + ", 0)", NO_INDEX, tree -> tree.remove(v, 0));
        }
        Expect.thrown(new CountedTree(), "remove(1, 0) at first", NO_INDEX, tree -> tree.remove(1, 0));
    }

    private static void refusesNoKey() {
        for (int k : Expect.NO_KEYS) {
            Expect.refused("remove(3, " + k + ")", NO_INDEX, tree -> tree.remove(3, k));
            Expect.refused("remove(5, " + k + ")", NO_INDEX, tree -> tree.remove(5, k));
        }
    }

    private static void refusesAKeyThatItHasNot() {
        for (int k : new int[] {1, 99, 101, 127, 128, 254}) {
            Expect.refused("remove(3, " + k + ")", NO_ELEMENT, tree -> tree.remove(3, k));
        }
        Expect.refused("remove(0, 0), which 1 has", NO_ELEMENT, tree -> tree.remove(0, 0));
        Expect.refused("remove(1, 100), which 2 has", NO_ELEMENT, tree -> tree.remove(1, 100));
        Expect.refused("remove(4, 0), for the second time", NO_ELEMENT, tree -> tree.remove(4, 0));
    }

    private static void refusesThatLast() {
        Expect.refused("remove(5, 1)", NO_INDEX, tree -> tree.remove(5, 1));
        Expect.refused("remove(-1, 1)", NO_INDEX, tree -> tree.remove(-1, 1));
        Expect.refused("remove(0, -1)", NO_INDEX, tree -> tree.remove(0, -1));
        Expect.refused("remove(0, 256)", NO_INDEX, tree -> tree.remove(0, 256));
    }
}

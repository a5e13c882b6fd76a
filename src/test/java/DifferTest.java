/** Promise 9: differ. */
public final class DifferTest {
    private static final Class<IndexOutOfBoundsException> NO_INDEX = IndexOutOfBoundsException.class;

    public static void main(String[] args) {
        Expect.holds("9: KEYS in one of v and w alone", DifferTest::countsKeysOfOneAlone);
        Expect.holds("9: or in both with other VALUES", DifferTest::countsOtherValues);
        Expect.holds("9: some KEYS of each kind", DifferTest::countsAllKinds);
        Expect.holds("9: 0 if none differs", DifferTest::answers0IfNoneDiffers);
        Expect.holds("9: v and w the same", DifferTest::answers0OfOneAndItself);
        Expect.holds("9: one of them without KEYS, or both", DifferTest::comparesWithNoKeys);
        Expect.holds("9: all 256 KEYS differ", DifferTest::countsAllKeys);
        Expect.holds("9: IndexOutOfBoundsException if there is no VERSION v", DifferTest::refusesNoFirstVersion);
        Expect.holds("9: IndexOutOfBoundsException if there is no VERSION w", DifferTest::refusesNoSecondVersion);
        Expect.holds("9: IndexOutOfBoundsException if there is neither", DifferTest::refusesNoVersionTwice);
        Expect.end();
    }

    private static void both(CountedTree tree, String what, int v, int w, int due) {
        Expect.equal(what, tree.differ(v, w), due);
        Expect.equal(what + ", the other way", tree.differ(w, v), due);
    }

    private static void countsKeysOfOneAlone() {
        CountedTree tree = Expect.sample();
        both(tree, "one key more", 3, tree.put(3, 101, 20), 1);
        both(tree, "one key more, with value 0", 3, tree.put(3, 1, 0), 1);
        both(tree, "one key less", 3, tree.remove(3, 255), 1);
        both(tree, "two keys less", 3, 1, 2);
        both(tree, "keys moved by one", 3, Expect.table(tree, 1, 10, 99, 20, 254, -30), 6);
    }

    private static void countsOtherValues() {
        CountedTree tree = Expect.sample();
        both(tree, "one value other", 3, tree.put(3, 100, 21), 1);
        both(tree, "one value 0", 3, tree.put(3, 100, 0), 1);
        both(tree, "one value other, least key", 3, tree.put(3, 0, -10), 1);
        both(tree, "values swapped, sums as before", 3, Expect.table(tree, 0, 20, 100, 10, 255, -30), 2);
        int most = tree.put(0, 7, Integer.MAX_VALUE);
        int least = tree.put(0, 7, Integer.MIN_VALUE);
        both(tree, "the edges of ints", most, least, 1);
    }

    private static void countsAllKinds() {
        CountedTree tree = Expect.sample();
        both(tree, "some of each", 3, Expect.table(tree, 0, 10, 100, -20, 7, 7, 8, 8), 4);
    }

    private static void answers0IfNoneDiffers() {
        CountedTree tree = Expect.sample();
        both(tree, "the same value put again", 3, tree.put(3, 100, 20), 0);
        both(tree, "made in another order", 3, Expect.table(tree, 255, -30, 100, 20, 0, 10), 0);
        both(tree, "put and removed", 3, tree.remove(tree.put(3, 9, 9), 9), 0);
        both(tree, "joined of its parts", 3, tree.join(2, 4, 200), 0);
    }

    private static void answers0OfOneAndItself() {
        CountedTree tree = Expect.sample();
        for (int v = 0; v < 5; v++) {
            Expect.equal("differ(" + v + ", " + v + ")", tree.differ(v, v), 0);
        }
    }

    private static void comparesWithNoKeys() {
        CountedTree tree = Expect.sample();
        both(tree, "differ(0, 3)", 0, 3, 3);
        both(tree, "differ(0, 1)", 0, 1, 1);
        both(tree, "two without keys", 0, tree.remove(1, 0), 0);
    }

    private static void countsAllKeys() {
        CountedTree tree = new CountedTree();
        int v = 0;
        for (int k = 0; k < 256; k++) {
            v = tree.put(v, k, k);
        }
        int w = 0;
        for (int k = 0; k < 250; k++) {
            w = tree.put(w, k, k + 1);
        }
        both(tree, "256 keys and 250 of them with other values", v, w, 256);
        both(tree, "256 keys and none", v, 0, 256);
    }

    private static void refusesNoFirstVersion() {
        for (int v : Expect.NO_VERSIONS) {
            Expect.refused("differ(" + v + ", 3)", NO_INDEX, tree -> tree.differ(v, 3));
        }
    }

    private static void refusesNoSecondVersion() {
        for (int w : Expect.NO_VERSIONS) {
            Expect.refused("differ(3, " + w + ")", NO_INDEX, tree -> tree.differ(3, w));
        }
    }

    private static void refusesNoVersionTwice() {
        for (int v : Expect.NO_VERSIONS) {
            Expect.refused("differ(" + v + ", " + v + ")", NO_INDEX, tree -> tree.differ(v, v));
        }
    }
}

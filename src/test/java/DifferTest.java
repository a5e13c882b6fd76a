/** Promise 9: differ. */
public final class DifferTest {
    public static void main(String[] args) {
        MeldTree tree = new MeldTree();
        int v = Expect.table(tree, 0, 1, 3, 2, 100, 3, 255, 4);
        both(tree, "a version and itself", v, v, 0);
        both(tree, "a version and no keys", v, 0, 4);
        both(tree, "one value other", v, tree.put(v, 100, 30), 1);
        both(tree, "the same value put again", v, tree.put(v, 100, 3), 0);
        both(tree, "one key more", v, tree.put(v, 101, 3), 1);
        both(tree, "one key less", v, tree.remove(v, 255), 1);
        both(tree, "made in another order", v, Expect.table(tree, 255, 4, 100, 3, 0, 1, 3, 2), 0);
        both(tree, "keys moved by one", v, Expect.table(tree, 1, 1, 4, 2, 101, 3, 254, 4), 8);
        both(tree, "values swapped, sums as before", v, Expect.table(tree, 0, 2, 3, 1, 100, 3, 255, 4), 2);
        both(tree, "some of each", v, Expect.table(tree, 0, 1, 3, -2, 99, 3, 255, 4, 7, 7), 4);
        for (int none : Expect.noVersions(tree)) {
            Expect.refused(tree, "differ(" + none + ", 0)", IndexOutOfBoundsException.class, () -> tree.differ(none, 0));
            Expect.refused(tree, "differ(0, " + none + ")", IndexOutOfBoundsException.class, () -> tree.differ(0, none));
            Expect.refused(tree, "differ(none, none)", IndexOutOfBoundsException.class, () -> tree.differ(none, none));
        }
        differsInAllKeys();
        Expect.end();
    }

    private static void both(MeldTree tree, String what, int v, int w, int due) {
        Expect.equal("differ: " + what, tree.differ(v, w), due);
        Expect.equal("differ, the other way: " + what, tree.differ(w, v), due);
    }

    private static void differsInAllKeys() {
        MeldTree tree = new MeldTree();
        int v = 0;
        int w = 0;
        for (int k = 0; k < 256; k++) {
            v = tree.put(v, k, k);
            w = tree.put(w, k, k + 1);
        }
        both(tree, "all values other", v, w, 256);
        both(tree, "all keys and none", v, 0, 256);
    }
}

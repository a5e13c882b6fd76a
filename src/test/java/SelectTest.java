/** Promise 6: select. */
public final class SelectTest {
    public static void main(String[] args) {
        MeldTree tree = new MeldTree();
        int v = Expect.table(tree, 200, 1, 0, 2, 255, 3, 127, 4, 128, 5, 3, 6);
        int[] due = {0, 3, 127, 128, 200, 255};
        for (int i = 0; i < due.length; i++) {
            Expect.equal("select(v, " + i + ")", tree.select(v, i), due[i]);
        }
        for (int i : new int[] {-1, 6, 256, Integer.MIN_VALUE, Integer.MAX_VALUE}) {
            Expect.refused(tree, "select(v, " + i + ")", IndexOutOfBoundsException.class, () -> tree.select(v, i));
        }
        Expect.refused(tree, "select(0, 0)", IndexOutOfBoundsException.class, () -> tree.select(0, 0));
        for (int none : Expect.noVersions(tree)) {
            Expect.refused(tree, "select(" + none + ", 0)", IndexOutOfBoundsException.class, () -> tree.select(none, 0));
        }
        selectsOfAllKeys();
        Expect.end();
    }

    private static void selectsOfAllKeys() {
        MeldTree tree = new MeldTree();
        int all = 0;
        for (int k = 255; k >= 0; k--) {
            all = tree.put(all, k, 0);
        }
        for (int i = 0; i < 256; i++) {
            Expect.equal("select(all, " + i + ")", tree.select(all, i), i);
        }
        int full = all;
        Expect.refused(tree, "select(all, 256)", IndexOutOfBoundsException.class, () -> tree.select(full, 256));
    }
}

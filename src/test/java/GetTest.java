import java.util.NoSuchElementException;

/** Promise 5: get. */
public final class GetTest {
    public static void main(String[] args) {
        MeldTree tree = new MeldTree();
        int all = 0;
        for (int k = 0; k < 256; k++) {
            all = tree.put(all, k, 1000 - 7 * k);
        }
        for (int k = 0; k < 256; k++) {
            Expect.equal("get(all, " + k + ")", tree.get(all, k), 1000 - 7 * k);
        }
        int v = Expect.table(tree, 0, -3, 64, 0, 255, 9);
        Expect.equal("get(v, 0)", tree.get(v, 0), -3);
        Expect.equal("get(v, 64)", tree.get(v, 64), 0);
        Expect.equal("get(v, 255)", tree.get(v, 255), 9);
        for (int k : new int[] {1, 63, 65, 128, 254}) {
            Expect.refused(tree, "get(v, " + k + ")", NoSuchElementException.class, () -> tree.get(v, k));
        }
        for (int k : Expect.NO_KEYS) {
            Expect.refused(tree, "get(v, " + k + ")", IndexOutOfBoundsException.class, () -> tree.get(v, k));
            Expect.refused(tree, "get(0, " + k + ")", IndexOutOfBoundsException.class, () -> tree.get(0, k));
        }
        for (int none : Expect.noVersions(tree)) {
            Expect.refused(tree, "get(" + none + ", 0)", IndexOutOfBoundsException.class, () -> tree.get(none, 0));
        }
        Expect.end();
    }
}

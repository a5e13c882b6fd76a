/** Promise 10: digest. */
public final class DigestTest {
    public static void main(String[] args) {
        MeldTree tree = new MeldTree();
        Expect.equal("digest(0)", tree.digest(0), 7);
        Expect.equal("digest of 0: 0", tree.digest(Expect.table(tree, 0, 0)), 6727);
        Expect.equal("digest of 5: 7", tree.digest(Expect.table(tree, 5, 7)), 6889);
        Expect.equal("digest of 5: -7", tree.digest(Expect.table(tree, 5, -7)), 6875);
        Expect.equal("digest of 3: -2, 200: 9", tree.digest(Expect.table(tree, 200, 9, 3, -2)), 6558307);
        Expect.equal("digest of 255: least int", tree.digest(Expect.table(tree, 255, Integer.MIN_VALUE)),
            6727 + 31 * 255 - 2147483648L);
        for (int none : Expect.noVersions(tree)) {
            Expect.refused(tree, "digest(" + none + ")", IndexOutOfBoundsException.class, () -> tree.digest(none));
        }
        wraps();
        Expect.end();
    }

    private static void wraps() {
        MeldTree tree = new MeldTree();
        int v = 0;
        for (int k = 255; k >= 0; k--) {
            v = tree.put(v, k, k * 8_000_001);
        }
        long due = 7;
        for (int k = 0; k < 256; k++) {
            due = due * 31 + k;
            due = due * 31 + k * 8_000_001;
        }
        Expect.equal("digest of all keys", tree.digest(v), due);
    }
}

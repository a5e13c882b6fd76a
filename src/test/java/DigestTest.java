import java.math.BigInteger;

/** Promise 10: digest. */
public final class DigestTest {
    private static final Class<IndexOutOfBoundsException> NO_INDEX = IndexOutOfBoundsException.class;
    private static final BigInteger FACTOR = BigInteger.valueOf(31);

    public static void main(String[] args) {
        Expect.holds("10: From 7 on", DigestTest::startsFrom7);
        Expect.holds("10: times 31 and it, times 31 and its VALUE", DigestTest::takesKeyAndValue);
        Expect.holds("10: the least first", DigestTest::takesTheLeastFirst);
        Expect.holds("10: of that VERSION", DigestTest::answersOfThatVersion);
        Expect.holds("10: wrapping (above)", DigestTest::wrapsAbove);
        Expect.holds("10: wrapping (below)", DigestTest::wrapsBelow);
        Expect.holds("10: wrapping (all KEYS)", DigestTest::wrapsOftenWithAllKeys);
        Expect.holds("10: IndexOutOfBoundsException if there is no VERSION v", DigestTest::refusesNoVersion);
        Expect.end();
    }

    private static void startsFrom7() {
        Expect.equal("digest(0)", new CountedTree().digest(0), 7);
        CountedTree tree = Expect.sample();
        Expect.equal("digest of the only key removed", tree.digest(tree.remove(1, 0)), 7);
    }

    private static void takesKeyAndValue() {
        CountedTree tree = new CountedTree();
        Expect.equal("0 -> 0", tree.digest(Expect.table(tree, 0, 0)), 6727);
        Expect.equal("5 -> 7", tree.digest(Expect.table(tree, 5, 7)), 6889);
        Expect.equal("5 -> -7", tree.digest(Expect.table(tree, 5, -7)), 6875);
        Expect.equal("255 -> 1", tree.digest(Expect.table(tree, 255, 1)), 14633);
        Expect.equal("255 -> the least int", tree.digest(Expect.table(tree, 255, Integer.MIN_VALUE)), -2147469016L);
        Expect.equal("0 -> the greatest int", tree.digest(Expect.table(tree, 0, Integer.MAX_VALUE)), 2147490374L);
    }

    private static void takesTheLeastFirst() {
        CountedTree tree = new CountedTree();
        Expect.equal("200, 3", tree.digest(Expect.table(tree, 200, 9, 3, -2)), 6558307);
        Expect.equal("3, 200", tree.digest(Expect.table(tree, 3, -2, 200, 9)), 6558307);
    }

    private static void answersOfThatVersion() {
        CountedTree tree = new CountedTree();
        tree.put(0, 5, 7);
        tree.put(1, 5, -7);
        tree.remove(2, 5);
        long[] due = {7, 6889, 6875, 7};
        for (int v = 0; v < due.length; v++) {
            Expect.equal("digest(" + v + ")", tree.digest(v), due[v]);
        }
    }

    /** Seven keys: 7 times 31 to the 12th fits in a long, times 31 to the 14th does not. */
    private static void wrapsAbove() {
        digestsAsDue(new int[] {0, 1, 2, 3, 4, 5}, Integer.MAX_VALUE);
        digestsAsDue(new int[] {0, 1, 2, 3, 4, 5, 6}, Integer.MAX_VALUE);
        digestsAsDue(new int[] {249, 250, 251, 252, 253, 254, 255}, 0);
    }

    private static void wrapsBelow() {
        digestsAsDue(new int[] {0, 1, 2, 3, 4, 5}, Integer.MIN_VALUE);
        digestsAsDue(new int[] {0, 1, 2, 3, 4, 5, 6}, Integer.MIN_VALUE);
        digestsAsDue(new int[] {0, 1, 2, 3, 4, 5, 6, 7}, Integer.MIN_VALUE);
    }

    private static void wrapsOftenWithAllKeys() {
        int[] all = new int[256];
        for (int k = 0; k < 256; k++) {
            all[k] = k;
        }
        digestsAsDue(all, Integer.MIN_VALUE);
        digestsAsDue(all, -1);
        digestsAsDue(all, 123456789);
    }

    /** Reckoned without any wrapping, and cut to a long at the end. */
    private static void digestsAsDue(int[] keys, int value) {
        CountedTree tree = new CountedTree();
        BigInteger due = BigInteger.valueOf(7);
        int v = 0;
        for (int k : keys) {
            v = tree.put(v, k, value);
            due = due.multiply(FACTOR).add(BigInteger.valueOf(k));
            due = due.multiply(FACTOR).add(BigInteger.valueOf(value));
        }
        Expect.equal("digest of " + keys.length + " keys with " + value, tree.digest(v), due.longValue());
    }

    private static void refusesNoVersion() {
        for (int v : Expect.NO_VERSIONS) {
            Expect.refused("digest(" + v + ")", NO_INDEX, tree -> tree.digest(v));
        }
    }
}

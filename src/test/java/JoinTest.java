/** Promise 4: join. Where there are 600 versions: FullTest. */
public final class JoinTest {
    private static final Class<IndexOutOfBoundsException> NO_INDEX = IndexOutOfBoundsException.class;

    public static void main(String[] args) {
        Expect.holds("4: the KEYS of v that are below k", JoinTest::takesOfTheFirstBelow);
        Expect.holds("4: those of w from k on", JoinTest::takesOfTheSecondFromThereOn);
        Expect.holds("4: a KEY of both with other VALUES", JoinTest::takesTheValuesAlong);
        Expect.holds("4: at 0: all of w", JoinTest::partsAt0);
        Expect.holds("4: at 256: all of v", JoinTest::partsAt256);
        Expect.holds("4: at each k, 0 to 256", JoinTest::partsAtEachKey);
        Expect.holds("4: v and w the same", JoinTest::joinsOneWithItself);
        Expect.holds("4: v or w without KEYS", JoinTest::joinsWithNoKeys);
        Expect.holds("4: no KEYS left", JoinTest::leavesNoKeys);
        Expect.holds("4: its number", JoinTest::answersTheNumber);
        Expect.holds("4: IndexOutOfBoundsException if there is no VERSION v", JoinTest::refusesNoFirstVersion);
        Expect.holds("4: IndexOutOfBoundsException if there is no VERSION w", JoinTest::refusesNoSecondVersion);
        Expect.holds("4: IndexOutOfBoundsException if k is not 0 to 256", JoinTest::refusesNoBound);
        Expect.end();
    }

    private static void takesOfTheFirstBelow() {
        CountedTree tree = Expect.sample();
        Expect.has(tree, "join(3, 0, 99)", tree.join(3, 0, 99), 0, 10);
        Expect.has(tree, "join(3, 0, 100)", tree.join(3, 0, 100), 0, 10);
        Expect.has(tree, "join(3, 0, 101)", tree.join(3, 0, 101), 0, 10, 100, 20);
        Expect.has(tree, "join(3, 0, 1)", tree.join(3, 0, 1), 0, 10);
        Expect.has(tree, "join(3, 0, 255)", tree.join(3, 0, 255), 0, 10, 100, 20);
    }

    private static void takesOfTheSecondFromThereOn() {
        CountedTree tree = Expect.sample();
        Expect.has(tree, "join(0, 3, 99)", tree.join(0, 3, 99), 100, 20, 255, -30);
        Expect.has(tree, "join(0, 3, 100)", tree.join(0, 3, 100), 100, 20, 255, -30);
        Expect.has(tree, "join(0, 3, 101)", tree.join(0, 3, 101), 255, -30);
        Expect.has(tree, "join(0, 3, 1)", tree.join(0, 3, 1), 100, 20, 255, -30);
        Expect.has(tree, "join(0, 3, 255)", tree.join(0, 3, 255), 255, -30);
    }

    private static void takesTheValuesAlong() {
        CountedTree tree = new CountedTree();
        int v = Expect.table(tree, 0, 1, 100, 2, 255, 3);
        int w = Expect.table(tree, 0, 4, 100, 5, 255, 6);
        Expect.has(tree, "join(v, w, 1)", tree.join(v, w, 1), 0, 1, 100, 5, 255, 6);
        Expect.has(tree, "join(v, w, 100)", tree.join(v, w, 100), 0, 1, 100, 5, 255, 6);
        Expect.has(tree, "join(v, w, 101)", tree.join(v, w, 101), 0, 1, 100, 2, 255, 6);
        Expect.has(tree, "join(v, w, 255)", tree.join(v, w, 255), 0, 1, 100, 2, 255, 6);
        Expect.has(tree, "join(w, v, 255)", tree.join(w, v, 255), 0, 4, 100, 5, 255, 3);
        Expect.has(tree, "v afterwards", v, 0, 1, 100, 2, 255, 3);
        Expect.has(tree, "w afterwards", w, 0, 4, 100, 5, 255, 6);
    }

    private static void partsAt0() {
        CountedTree tree = Expect.sample();
        Expect.has(tree, "join(1, 3, 0)", tree.join(1, 3, 0), 0, 10, 100, 20, 255, -30);
        Expect.has(tree, "join(3, 4, 0)", tree.join(3, 4, 0), 100, 20, 255, -30);
        Expect.has(tree, "join(3, 1, 0)", tree.join(3, 1, 0), 0, 10);
    }

    private static void partsAt256() {
        CountedTree tree = Expect.sample();
        Expect.has(tree, "join(3, 1, 256)", tree.join(3, 1, 256), 0, 10, 100, 20, 255, -30);
        Expect.has(tree, "join(4, 3, 256)", tree.join(4, 3, 256), 100, 20, 255, -30);
        Expect.has(tree, "join(2, 3, 256)", tree.join(2, 3, 256), 0, 10, 100, 20);
        Expect.equal("check()", tree.check(), 0);
    }

    private static void partsAtEachKey() {
        for (int k = 0; k <= 256; k++) {
            CountedTree tree = new CountedTree();
            int v = 0;
            int w = 0;
            for (int key = 0; key < 256; key += 3) {
                v = tree.put(v, key, key + 1000);
            }
            for (int key = 0; key < 256; key += 2) {
                w = tree.put(w, key, key + 2000);
            }
            int joined = tree.join(v, w, k);
            Expect.equal("digest of join(v, w, " + k + ")", tree.digest(joined), dueDigest(k));
            Expect.equal("check() after join(v, w, " + k + ")", tree.check(), 0);
        }
    }

    private static long dueDigest(int k) {
        long digest = 7;
        for (int key = 0; key < 256; key++) {
            if (key < k && key % 3 == 0) {
                digest = (digest * 31 + key) * 31 + key + 1000;
            } else if (key >= k && key % 2 == 0) {
                digest = (digest * 31 + key) * 31 + key + 2000;
            }
        }
        return digest;
    }

    private static void joinsOneWithItself() {
        CountedTree tree = Expect.sample();
        for (int k : new int[] {0, 1, 100, 128, 255, 256}) {
            Expect.has(tree, "join(3, 3, " + k + ")", tree.join(3, 3, k), 0, 10, 100, 20, 255, -30);
        }
        Expect.equal("check()", tree.check(), 0);
    }

    private static void joinsWithNoKeys() {
        CountedTree tree = Expect.sample();
        Expect.has(tree, "join(0, 3, 0)", tree.join(0, 3, 0), 0, 10, 100, 20, 255, -30);
        Expect.has(tree, "join(3, 0, 256)", tree.join(3, 0, 256), 0, 10, 100, 20, 255, -30);
        Expect.has(tree, "join(0, 3, 128)", tree.join(0, 3, 128), 255, -30);
        Expect.has(tree, "join(3, 0, 128)", tree.join(3, 0, 128), 0, 10, 100, 20);
    }

    private static void leavesNoKeys() {
        CountedTree tree = Expect.sample();
        int[] none = {
            tree.join(0, 0, 0), tree.join(0, 0, 128), tree.join(0, 0, 256), tree.join(3, 0, 0), tree.join(0, 3, 256),
            tree.join(4, 1, 1), tree.join(4, 1, 100)
        };
        for (int v : none) {
            Expect.has(tree, "version " + v, v);
            Expect.equal("digest(" + v + ")", tree.digest(v), 7);
            Expect.equal("differ(0, " + v + ")", tree.differ(0, v), 0);
        }
        Expect.equal("check()", tree.check(), 0);
    }

    private static void answersTheNumber() {
        CountedTree tree = Expect.sample();
        Expect.equal("join(3, 4, 50)", tree.join(3, 4, 50), 5);
        Expect.equal("join(3, 4, 0)", tree.join(3, 4, 0), 6);
        Expect.equal("join(3, 4, 256)", tree.join(3, 4, 256), 7);
        Expect.equal("join(0, 0, 7)", tree.join(0, 0, 7), 8);
        Expect.equal("versions()", tree.versions(), 9);
    }

    private static void refusesNoFirstVersion() {
        for (int v : Expect.NO_VERSIONS) {
            for (int k : new int[] {0, 100, 256}) {
                Expect.refused("join(" + v + ", 3, " + k + ")", NO_INDEX, tree -> tree.join(v, 3, k));
            }
        }
    }

    private static void refusesNoSecondVersion() {
        for (int w : Expect.NO_VERSIONS) {
            for (int k : new int[] {0, 100, 256}) {
                Expect.refused("join(3, " + w + ", " + k + ")", NO_INDEX, tree -> tree.join(3, w, k));
            }
        }
    }

    private static void refusesNoBound() {
        for (int k : new int[] {-1, 257, 512, Integer.MIN_VALUE, Integer.MAX_VALUE}) {
            Expect.refused("join(3, 4, " + k + ")", NO_INDEX, tree -> tree.join(3, 4, k));
        }
    }
}

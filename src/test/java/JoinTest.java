/** Promise 4: join. */
public final class JoinTest {
    public static void main(String[] args) {
        partsAtEveryKey();
        joinsEdges();
        refusesWrongInput();
        refusesWhenFull();
        Expect.end();
    }

    private static void partsAtEveryKey() {
        for (int k = 0; k <= 256; k++) {
            MeldTree tree = new MeldTree();
            int v = 0;
            int w = 0;
            for (int key = 0; key < 256; key += 3) {
                v = tree.put(v, key, key + 1000);
            }
            for (int key = 0; key < 256; key += 2) {
                w = tree.put(w, key, key + 2000);
            }
            int versions = tree.versions();
            long[] before = Expect.state(tree);
            int joined = tree.join(v, w, k);
            Expect.equal("join(v, w, " + k + ")", joined, versions);
            Expect.equal("digest of join(v, w, " + k + ")", tree.digest(joined), dueDigest(k));
            Expect.equal("check() after join(v, w, " + k + ")", tree.check(), 0);
            Expect.equal("digest(v) after join", tree.digest(v), before[v]);
            Expect.equal("digest(w) after join", tree.digest(w), before[w]);
        }
    }

    private static long dueDigest(int k) {
        long digest = 7;
        for (int key = 0; key < 256; key++) {
            if (key < k && key % 3 == 0) {
                digest = (digest * 31 + key) * 31 + key + 1000;
            } else if (key >= k && key % 2 == 0) {
                digest = (digest * 31 + key) * 31 + key + 2000;
            }
        }
        return digest;
    }

    private static void joinsEdges() {
        MeldTree tree = new MeldTree();
        int v = Expect.table(tree, 0, 1, 100, 2, 255, 3);
        int w = Expect.table(tree, 0, 4, 100, 5, 255, 6);
        Expect.equal("join at 0 is w", tree.differ(tree.join(v, w, 0), w), 0);
        Expect.equal("join at 256 is v", tree.differ(tree.join(v, w, 256), v), 0);
        Expect.equal("join at 255 has 255 of w", tree.get(tree.join(v, w, 255), 255), 6);
        Expect.equal("join at 255 has 100 of v", tree.get(tree.join(v, w, 255), 100), 2);
        Expect.equal("join at 100 has 100 of w", tree.get(tree.join(v, w, 100), 100), 5);
        Expect.equal("join at 101 has 100 of v", tree.get(tree.join(v, w, 101), 100), 2);
        Expect.equal("join with itself", tree.differ(tree.join(v, v, 100), v), 0);
        Expect.equal("join of version 0 alone", tree.digest(tree.join(0, 0, 128)), 7);
        Expect.equal("join(v, 0, 1)", tree.many(tree.join(v, 0, 1), 0, 256), 1);
        Expect.equal("join(0, w, 1)", tree.many(tree.join(0, w, 1), 0, 256), 2);
        Expect.equal("join(0, w, 256)", tree.digest(tree.join(0, w, 256)), 7);
        Expect.equal("join(v, 0, 0)", tree.digest(tree.join(v, 0, 0)), 7);
        Expect.equal("versions()", tree.versions(), 19);
        Expect.equal("check()", tree.check(), 0);
    }

    private static void refusesWrongInput() {
        MeldTree tree = new MeldTree();
        tree.put(0, 5, 7);
        for (int v : Expect.noVersions(tree)) {
            Expect.refused(tree, "join(" + v + ", 1, 5)", IndexOutOfBoundsException.class, () -> tree.join(v, 1, 5));
            Expect.refused(tree, "join(1, " + v + ", 5)", IndexOutOfBoundsException.class, () -> tree.join(1, v, 5));
            Expect.refused(tree, "join(1, " + v + ", 256)", IndexOutOfBoundsException.class, () -> tree.join(1, v, 256));
        }
        for (int k : new int[] {-1, 257, Integer.MIN_VALUE, Integer.MAX_VALUE}) {
            Expect.refused(tree, "join(1, 0, " + k + ")", IndexOutOfBoundsException.class, () -> tree.join(1, 0, k));
        }
        Expect.equal("join(1, 0, 256) after refusals", tree.join(1, 0, 256), 2);
    }

    private static void refusesWhenFull() {
        MeldTree tree = Expect.full();
        for (int k : new int[] {0, 1, 256}) {
            Expect.refused(tree, "join(0, 599, " + k + ") when full", IllegalStateException.class, () -> tree.join(0, 599, k));
        }
        Expect.refused(tree, "join(0, 600, 1) when full", IndexOutOfBoundsException.class, () -> tree.join(0, 600, 1));
        Expect.refused(tree, "join(600, 0, 1) when full", IndexOutOfBoundsException.class, () -> tree.join(600, 0, 1));
        Expect.refused(tree, "join(0, 0, 257) when full", IndexOutOfBoundsException.class, () -> tree.join(0, 0, 257));
        Expect.refused(tree, "join(0, 0, -1) when full", IndexOutOfBoundsException.class, () -> tree.join(0, 0, -1));
    }
}

import java.util.NoSuchElementException;

/** Promise 12: check. That it would tell of a broken tree: CheckSeesTest. */
public final class CheckTest {
    public static void main(String[] args) {
        Expect.holds("12: always 0 (at first)", CheckTest::answers0AtFirst);
        Expect.holds("12: always 0 (after each put, to all 256 KEYS)", CheckTest::answers0AfterPuts);
        Expect.holds("12: always 0 (after each remove, to no KEYS)", CheckTest::answers0AfterRemoves);
        Expect.holds("12: always 0 (after each join)", CheckTest::answers0AfterJoins);
        Expect.holds("12: always 0 (sums above and below all ints)", CheckTest::answers0OfEdgeSums);
        Expect.holds("12: always 0 (after what throws)", CheckTest::answers0AfterRefusals);
        Expect.holds("12: always 0 (as the 512th call)", CheckTest::answers0AtTheEnd);
        Expect.end();
    }

    private static void answers0AtFirst() {
        Expect.equal("check()", new CountedTree().check(), 0);
    }

    private static void answers0AfterPuts() {
        CountedTree tree = new CountedTree();
        for (int v = 0; v < 256; v++) {
            tree.put(v, v * 37 & 255, v);
            Expect.equal("check() after put " + v, tree.check(), 0);
        }
    }

    private static void answers0AfterRemoves() {
        CountedTree tree = new CountedTree();
        int v = 0;
        for (int i = 0; i < 170; i++) {
            v = tree.put(v, i * 37 & 255, i);
        }
        for (int i = 0; i < 170; i++) {
            v = tree.remove(v, i * 37 & 255);
            Expect.equal("check() after remove " + i, tree.check(), 0);
        }
        Expect.equal("many at the end", tree.many(v, 0, 256), 0);
    }

    private static void answers0AfterJoins() {
        CountedTree tree = new CountedTree();
        int v = 0;
        int w = 0;
        for (int k = 0; k < 256; k += 4) {
            v = tree.put(v, k, 1);
            w = tree.put(w, k + 1, 2);
        }
        for (int k = 0; k <= 256; k += 2) {
            tree.join(v, w, k);
            Expect.equal("check() after join at " + k, tree.check(), 0);
        }
    }

    private static void answers0OfEdgeSums() {
        CountedTree tree = new CountedTree();
        int most = 0;
        int least = 0;
        for (int k = 0; k < 255; k++) {
            most = tree.put(most, k, Integer.MAX_VALUE);
            least = tree.put(least, k, Integer.MIN_VALUE);
        }
        Expect.equal("check()", tree.check(), 0);
    }

    private static void answers0AfterRefusals() {
        CountedTree tree = Expect.sample();
        Expect.thrown(tree, "remove(3, 1)", NoSuchElementException.class, t -> t.remove(3, 1));
        Expect.equal("check() after remove(3, 1)", tree.check(), 0);
        Expect.thrown(tree, "put(3, 256, 1)", IndexOutOfBoundsException.class, t -> t.put(3, 256, 1));
        Expect.equal("check() after put(3, 256, 1)", tree.check(), 0);
        Expect.thrown(tree, "join(3, 4, 257)", IndexOutOfBoundsException.class, t -> t.join(3, 4, 257));
        Expect.equal("check() after join(3, 4, 257)", tree.check(), 0);
    }

    private static void answers0AtTheEnd() {
        CountedTree tree = new CountedTree();
        for (int v = 0; v < 511; v++) {
            tree.put(v, v & 255, -v);
        }
        Expect.equal("check()", tree.check(), 0);
    }
}

import java.util.NoSuchElementException;

/** Promise 11: versions. Where there are 600 versions: FullTest. */
public final class VersionsTest {
    public static void main(String[] args) {
        Expect.holds("11: How many VERSIONS there are (at first)", VersionsTest::answers1AtFirst);
        Expect.holds("11: How many VERSIONS there are (each put, remove and join makes one)", VersionsTest::countsEach);
        Expect.holds("11: How many VERSIONS there are (what asks makes none)", VersionsTest::countsNoQuestions);
        Expect.holds("11: How many VERSIONS there are (what throws makes none)", VersionsTest::countsNoRefusals);
        Expect.holds("11: How many VERSIONS there are (the most within 512 calls)", VersionsTest::countsTheMost);
        Expect.end();
    }

    private static void answers1AtFirst() {
        Expect.equal("versions()", new CountedTree().versions(), 1);
    }

    private static void countsEach() {
        CountedTree tree = new CountedTree();
        tree.put(0, 1, 1);
        Expect.equal("versions() after put", tree.versions(), 2);
        tree.put(1, 1, 1);
        Expect.equal("versions() after put of what was there", tree.versions(), 3);
        tree.remove(1, 1);
        Expect.equal("versions() after remove", tree.versions(), 4);
        tree.join(1, 1, 0);
        Expect.equal("versions() after join at 0", tree.versions(), 5);
        tree.join(1, 0, 256);
        Expect.equal("versions() after join at 256", tree.versions(), 6);
        tree.join(0, 0, 5);
        Expect.equal("versions() after join of no keys", tree.versions(), 7);
    }

    private static void countsNoQuestions() {
        CountedTree tree = Expect.sample();
        tree.get(3, 100);
        tree.select(3, 0);
        tree.many(3, 0, 256);
        tree.sum(3, 0, 256);
        tree.differ(3, 0);
        tree.digest(3);
        tree.check();
        tree.versions();
        Expect.equal("versions()", tree.versions(), 5);
    }

    private static void countsNoRefusals() {
        CountedTree tree = Expect.sample();
        Expect.thrown(tree, "remove(0, 1)", NoSuchElementException.class, t -> t.remove(0, 1));
        Expect.thrown(tree, "put(5, 1, 1)", IndexOutOfBoundsException.class, t -> t.put(5, 1, 1));
        Expect.thrown(tree, "join(0, 0, 257)", IndexOutOfBoundsException.class, t -> t.join(0, 0, 257));
        Expect.equal("versions()", tree.versions(), 5);
    }

    private static void countsTheMost() {
        CountedTree tree = new CountedTree();
        for (int i = 0; i < 511; i++) {
            tree.put(i, i & 255, i);
        }
        Expect.equal("versions() as the 512th call", tree.versions(), 512);
    }
}

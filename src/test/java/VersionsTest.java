import java.util.NoSuchElementException;

/** Promise 11: versions. */
public final class VersionsTest {
    public static void main(String[] args) {
        MeldTree tree = new MeldTree();
        Expect.equal("versions() at first", tree.versions(), 1);
        tree.put(0, 1, 1);
        Expect.equal("versions() after put", tree.versions(), 2);
        tree.put(1, 1, 1);
        Expect.equal("versions() after put of what was there", tree.versions(), 3);
        tree.remove(1, 1);
        Expect.equal("versions() after remove", tree.versions(), 4);
        tree.join(1, 1, 0);
        tree.join(1, 0, 256);
        Expect.equal("versions() after two joins", tree.versions(), 6);
        tree.get(1, 1);
        tree.select(1, 0);
        tree.many(1, 0, 256);
        tree.sum(1, 0, 256);
        tree.differ(1, 0);
        tree.digest(1);
        tree.check();
        tree.versions();
        Expect.equal("versions() after questions", tree.versions(), 6);
        Expect.refused(tree, "remove(0, 1)", NoSuchElementException.class, () -> tree.remove(0, 1));
        Expect.equal("versions() after a refusal", tree.versions(), 6);
        Expect.equal("versions() when full", Expect.full().versions(), 600);
        Expect.end();
    }
}

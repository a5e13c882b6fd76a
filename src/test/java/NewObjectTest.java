import java.util.NoSuchElementException;

/** Promise 1: a new object has version 0 alone, without keys. */
public final class NewObjectTest {
    public static void main(String[] args) {
        MeldTree tree = new MeldTree();
        Expect.equal("versions()", tree.versions(), 1);
        Expect.equal("many(0, all)", tree.many(0, Integer.MIN_VALUE, Integer.MAX_VALUE), 0);
        Expect.equal("sum(0, all)", tree.sum(0, Integer.MIN_VALUE, Integer.MAX_VALUE), 0);
        Expect.equal("digest(0)", tree.digest(0), 7);
        Expect.equal("differ(0, 0)", tree.differ(0, 0), 0);
        Expect.equal("check()", tree.check(), 0);
        for (int k = 0; k < 256; k++) {
            int key = k;
            Expect.refused(tree, "get(0, " + k + ")", NoSuchElementException.class, () -> tree.get(0, key));
        }
        Expect.refused(tree, "digest(1)", IndexOutOfBoundsException.class, () -> tree.digest(1));
        objectsShareNothing();
        Expect.end();
    }

    private static void objectsShareNothing() {
        MeldTree one = new MeldTree();
        MeldTree other = new MeldTree();
        one.put(0, 3, 4);
        Expect.equal("versions() of the other object", other.versions(), 1);
        Expect.equal("put(0, 5, 6) of the other object", other.put(0, 5, 6), 1);
        Expect.equal("get(1, 3) of the one object", one.get(1, 3), 4);
        Expect.equal("many(1, 0, 256) of the one object", one.many(1, 0, 256), 1);
    }
}

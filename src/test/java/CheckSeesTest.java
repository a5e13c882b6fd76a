import java.lang.reflect.Array;
import java.lang.reflect.Field;

/**
 * That check of promise 12 looks: trees that reflection breaks are told. This test alone knows how the program holds
 * its state. The document leaves that free, so it lets a program pass that has no roots to break, and says so; it must
 * then be written anew.
 */
public final class CheckSeesTest {
    public static void main(String[] args) {
        if (!hasRoots()) {
            System.out.println("CheckSeesTest broke nothing: MeldTree has no field roots");
            return;
        }
        Expect.holds("12: How much is wrong: KEYS out of order", CheckSeesTest::seesPlaces);
        Expect.holds("12: How much is wrong: a root out of place", CheckSeesTest::seesARootOutOfPlace);
        Expect.holds("12: How much is wrong: counts that are not those of what is below", CheckSeesTest::seesCounts);
        Expect.holds("12: How much is wrong: a leaf that counts as two KEYS", CheckSeesTest::seesALeafOfTwoKeys);
        Expect.holds("12: How much is wrong: sums that are not those of what is below", CheckSeesTest::seesSums);
        Expect.holds("12: How much is wrong: trees that are not as their KEYS say", CheckSeesTest::seesParts);
        Expect.holds("12: How much is wrong: a node without KEYS", CheckSeesTest::seesANodeWithoutKeys);
        Expect.end();
    }

    private static boolean hasRoots() {
        for (Field field : MeldTree.class.getDeclaredFields()) {
            if (field.getName().equals("roots")) {
                return true;
            }
        }
        return false;
    }

    private static void seesPlaces() throws ReflectiveOperationException {
        seesAtEveryDepth("first");
        seesAtEveryDepth("height");
    }

    private static void seesCounts() throws ReflectiveOperationException {
        seesAtEveryDepth("size");
    }

    private static void seesSums() throws ReflectiveOperationException {
        seesAtEveryDepth("total");
        seesABroken("value", "low", 8);
        seesABroken("value", "high", 8);
    }

    private static void seesParts() throws ReflectiveOperationException {
        seesAtEveryDepth("low");
        seesAtEveryDepth("high");
    }

    /** On the side of the least key and on that of the greatest. */
    private static void seesAtEveryDepth(String field) throws ReflectiveOperationException {
        for (int depth = 0; depth <= 8; depth++) {
            seesABroken(field, "low", depth);
            seesABroken(field, "high", depth);
        }
    }

    private static void seesABroken(String name, String side, int depth) throws ReflectiveOperationException {
        MeldTree tree = new MeldTree();
        tree.put(0, 0, 1);
        tree.put(1, 90, 2);
        tree.put(2, 200, 3);
        tree.put(3, 255, 4);
        Object root = root(tree, 4);
        Object node = root;
        for (int i = 0; i < depth; i++) {
            node = field(node, side).get(node);
        }
        Field field = field(node, name);
        if (field.getType() == int.class) {
            field.setInt(node, field.getInt(node) + 1);
        } else if (field.getType() == long.class) {
            field.setLong(node, field.getLong(node) + 1);
        } else {
            field.set(node, root);
        }
        sees(tree, "a broken " + name + ", " + depth + " times " + side);
    }

    private static void seesARootOutOfPlace() throws ReflectiveOperationException {
        MeldTree tree = new MeldTree();
        tree.put(0, 0, 1);
        tree.put(1, 200, 2);
        Object root = root(tree, 1);
        Array.set(roots(tree), 1, field(root, "low").get(root));
        sees(tree, "a root out of place");
    }

    private static void seesANodeWithoutKeys() throws ReflectiveOperationException {
        MeldTree tree = new MeldTree();
        Object root = root(tree, tree.put(0, 5, 0));
        field(root, "low").set(root, null);
        field(root, "size").setInt(root, 0);
        sees(tree, "a node without keys");
    }

    private static void seesALeafOfTwoKeys() throws ReflectiveOperationException {
        MeldTree tree = new MeldTree();
        Object node = root(tree, tree.put(0, 0, 7));
        for (int depth = 0; depth <= 8; depth++) {
            field(node, "size").setInt(node, 2);
            node = field(node, "low").get(node);
        }
        sees(tree, "a leaf that counts as two keys");
    }

    private static void sees(MeldTree tree, String fault) {
        if (tree.check() <= 0) {
            Expect.tell("check() did not tell of " + fault);
        }
    }

    private static Object roots(MeldTree tree) throws ReflectiveOperationException {
        return field(tree, "roots").get(tree);
    }

    private static Object root(MeldTree tree, int v) throws ReflectiveOperationException {
        return Array.get(roots(tree), v);
    }

    private static Field field(Object holder, String name) throws ReflectiveOperationException {
        Field field = holder.getClass().getDeclaredField(name);
        field.setAccessible(true);
        return field;
    }
}

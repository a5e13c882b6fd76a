import java.lang.reflect.Array;
import java.lang.reflect.Field;

/** Promise 12: check answers 0, and would not if a tree were broken (which reflection does here). */
public final class CheckTest {
    public static void main(String[] args) throws ReflectiveOperationException {
        answersZero();
        findsBrokenTrees();
        Expect.end();
    }

    private static void answersZero() {
        MeldTree tree = new MeldTree();
        int v = 0;
        for (int k = 0; k < 256; k++) {
            v = tree.put(v, k * 37 & 255, k % 2 == 0 ? Integer.MIN_VALUE : Integer.MAX_VALUE);
            Expect.equal("check() after put", tree.check(), 0);
        }
        for (int k = 0; k < 200; k++) {
            v = tree.remove(v, k * 91 & 255);
            Expect.equal("check() after remove", tree.check(), 0);
        }
        for (int k = 0; k <= 256; k += 16) {
            v = tree.join(k, v, k);
            Expect.equal("check() after join", tree.check(), 0);
        }
        Expect.equal("check() when full", Expect.full().check(), 0);
    }

    private static void findsBrokenTrees() throws ReflectiveOperationException {
        for (String field : new String[] {"size", "total", "first", "height", "low", "high", "value"}) {
            for (int depth = 0; depth <= 8; depth++) {
                if (!isFreeAt(field, depth)) {
                    findsBroken(field, depth);
                }
            }
        }
    }

    /** Only leaves hold a value of the table. */
    private static boolean isFreeAt(String field, int depth) {
        return field.equals("value") && depth < 8;
    }

    private static void findsBroken(String name, int depth) throws ReflectiveOperationException {
        MeldTree tree = new MeldTree();
        int v = Expect.table(tree, 0, 1, 90, 2, 200, 3);
        Field roots = MeldTree.class.getDeclaredField("roots");
        roots.setAccessible(true);
        Object root = Array.get(roots.get(tree), v);
        Object node = root;
        for (int i = 0; i < depth; i++) {
            node = field(node, "low").get(node);
        }
        Field field = field(node, name);
        if (field.getType() == int.class) {
            field.setInt(node, field.getInt(node) + 1);
        } else if (field.getType() == long.class) {
            field.setLong(node, field.getLong(node) + 1);
        } else {
            field.set(node, root);
        }
        Expect.equal("check() finds a broken " + name + " at depth " + depth, tree.check() > 0 ? 1 : 0, 1);
    }

    private static Field field(Object node, String name) throws ReflectiveOperationException {
        Field field = node.getClass().getDeclaredField(name);
        field.setAccessible(true);
        return field;
    }
}

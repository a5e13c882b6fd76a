import java.lang.reflect.Array;
import java.lang.reflect.Field;

/** Promise 12: check answers 0, and would not if a tree were broken (which reflection does here). */
public final class CheckTest {
    public static void main(String[] args) throws ReflectiveOperationException {
        answersZero();
        findsBrokenFields();
        findsARootOutOfPlace();
        findsANodeWithoutKeys();
        findsALeafOfTwoKeys();
        Expect.end();
    }

    private static void answersZero() {
        MeldTree tree = new MeldTree();
        int v = 0;
        for (int k = 0; k < 256; k++) {
            v = tree.put(v, k * 37 & 255, k % 2 == 0 ? Integer.MIN_VALUE : Integer.MAX_VALUE);
            Expect.equal("check() after put", tree.check(), 0);
        }
        for (int k = 0; k < 200; k++) {
            v = tree.remove(v, k * 91 & 255);
            Expect.equal("check() after remove", tree.check(), 0);
        }
        for (int k = 0; k <= 256; k += 16) {
            v = tree.join(k, v, k);
            Expect.equal("check() after join", tree.check(), 0);
        }
        Expect.equal("check() when full", Expect.full().check(), 0);
    }

    /** One field at a time, at every depth of the least key's and of the greatest key's side. */
    private static void findsBrokenFields() throws ReflectiveOperationException {
        for (String side : new String[] {"low", "high"}) {
            for (int depth = 0; depth <= 8; depth++) {
                for (String field : new String[] {"size", "total", "first", "height", "low", "high"}) {
                    findsBrokenField(side, depth, field);
                }
            }
            findsBrokenField(side, 8, "value");
        }
    }

    private static void findsBrokenField(String side, int depth, String name) throws ReflectiveOperationException {
        MeldTree tree = new MeldTree();
        int v = Expect.table(tree, 0, 1, 90, 2, 200, 3, 255, 4);
        Object root = root(tree, v);
        Object node = root;
        for (int i = 0; i < depth; i++) {
            node = field(node, side).get(node);
        }
        Field field = field(node, name);
        if (field.getType() == int.class) {
            field.setInt(node, field.getInt(node) + 1);
        } else if (field.getType() == long.class) {
            field.setLong(node, field.getLong(node) + 1);
        } else {
            field.set(node, root);
        }
        finds(tree, "a broken " + name + ", " + depth + " times " + side);
    }

    private static void findsARootOutOfPlace() throws ReflectiveOperationException {
        MeldTree tree = new MeldTree();
        int v = Expect.table(tree, 0, 1, 200, 2, 255, 3);
        Object root = root(tree, v - 1);
        Array.set(roots(tree), v - 1, field(root, "low").get(root));
        finds(tree, "a root out of place");
    }

    private static void findsANodeWithoutKeys() throws ReflectiveOperationException {
        MeldTree tree = new MeldTree();
        Object root = root(tree, tree.put(0, 5, 0));
        field(root, "low").set(root, null);
        field(root, "size").setInt(root, 0);
        finds(tree, "a node without keys");
    }

    private static void findsALeafOfTwoKeys() throws ReflectiveOperationException {
        MeldTree tree = new MeldTree();
        Object node = root(tree, tree.put(0, 0, 7));
        for (int depth = 0; depth <= 8; depth++) {
            field(node, "size").setInt(node, 2);
            node = field(node, "low").get(node);
        }
        finds(tree, "a leaf that counts as two keys");
    }

    private static void finds(MeldTree tree, String fault) {
        Expect.equal("check() > 0 for " + fault, tree.check() > 0 ? 1 : 0, 1);
    }

    private static Object roots(MeldTree tree) throws ReflectiveOperationException {
        return field(tree, "roots").get(tree);
    }

    private static Object root(MeldTree tree, int v) throws ReflectiveOperationException {
        return Array.get(roots(tree), v);
    }

    private static Field field(Object holder, String name) throws ReflectiveOperationException {
        Field field = holder.getClass().getDeclaredField(name);
        field.setAccessible(true);
        return field;
    }
}

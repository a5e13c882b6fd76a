import java.lang.reflect.Constructor;
import java.lang.reflect.Field;
import java.lang.reflect.Method;
import java.lang.reflect.Modifier;
import java.util.Set;
import java.util.TreeSet;

/** The public face of the document, and nothing else that can be seen from outside. */
public final class FaceTest {
    private static final Set<String> FACE = Set.of(
        "public MeldTree()",
        "public int MeldTree.put(int,int,int) throws java.lang.IndexOutOfBoundsException,java.lang.IllegalStateException",
        "public int MeldTree.remove(int,int) throws java.lang.IndexOutOfBoundsException,"
            + "java.lang.IllegalStateException,java.util.NoSuchElementException",
        "public int MeldTree.join(int,int,int) throws java.lang.IndexOutOfBoundsException,java.lang.IllegalStateException",
        "public int MeldTree.get(int,int) throws java.lang.IndexOutOfBoundsException,java.util.NoSuchElementException",
        "public int MeldTree.select(int,int) throws java.lang.IndexOutOfBoundsException",
        "public int MeldTree.many(int,int,int) throws java.lang.IndexOutOfBoundsException",
        "public long MeldTree.sum(int,int,int) throws java.lang.IndexOutOfBoundsException",
        "public int MeldTree.differ(int,int) throws java.lang.IndexOutOfBoundsException",
        "public long MeldTree.digest(int) throws java.lang.IndexOutOfBoundsException",
        "public int MeldTree.versions()",
        "public int MeldTree.check()");

    public static void main(String[] args) {
        Expect.holds("The public face", FaceTest::showsTheFaceAlone);
        Expect.holds("The public face: no private method bears the name of a public one", FaceTest::namesDiffer);
        Expect.end();
    }

    private static void showsTheFaceAlone() {
        Set<String> seen = new TreeSet<>();
        for (Constructor<?> made : MeldTree.class.getDeclaredConstructors()) {
            addUnlessPrivate(seen, made.getModifiers(), made.toString());
        }
        for (Method method : MeldTree.class.getDeclaredMethods()) {
            addUnlessPrivate(seen, method.getModifiers(), method.toString());
        }
        for (Field field : MeldTree.class.getDeclaredFields()) {
            addUnlessPrivate(seen, field.getModifiers(), field.toString());
        }
        for (String member : seen) {
            Expect.equal("a member of the face: " + member, FACE.contains(member) ? 1 : 0, 1);
        }
        for (String member : FACE) {
            Expect.equal("present: " + member, seen.contains(member) ? 1 : 0, 1);
        }
        Expect.equal("public and final", MeldTree.class.getModifiers(), Modifier.PUBLIC | Modifier.FINAL);
    }

    private static void namesDiffer() {
        for (Method hidden : MeldTree.class.getDeclaredMethods()) {
            for (Method shown : MeldTree.class.getMethods()) {
                if (Modifier.isPrivate(hidden.getModifiers()) && hidden.getName().equals(shown.getName())) {
                    Expect.tell("private and public: " + hidden.getName());
                }
            }
        }
    }

    private static void addUnlessPrivate(Set<String> seen, int modifiers, String member) {
        if (!Modifier.isPrivate(modifiers)) {
            seen.add(member);
        }
    }
}

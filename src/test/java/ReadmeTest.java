import java.lang.reflect.Method;
import java.nio.file.Files;
import java.nio.file.Path;
import java.util.HashMap;
import java.util.Map;
import java.util.Set;
import java.util.TreeSet;
import java.util.regex.Matcher;
import java.util.regex.Pattern;

/** That the example of README.md answers as its comments say: the first number of a comment is the answer. */
public final class ReadmeTest {
    private static final Pattern CALL = Pattern.compile("(?:int (\\w+) = )?tree\\.(\\w+)\\((.*)\\); *// \\D*?(-?\\d+).*");

    private final MeldTree tree = new MeldTree();
    private final Map<String, Integer> names = new HashMap<>();
    private final Set<String> called = new TreeSet<>();

    public static void main(String[] args) {
        Expect.holds("README.md: the example", () -> new ReadmeTest().run());
        Expect.end();
    }

    private void run() throws Exception {
        for (String line : example().split("\n")) {
            Matcher call = CALL.matcher(line);
            if (call.matches()) {
                answer(line, call);
            } else if (!line.startsWith("MeldTree tree = new MeldTree();")) {
                Expect.tell("a line that this test can't read: " + line);
            }
        }
        for (Method method : MeldTree.class.getDeclaredMethods()) {
            if (method.toString().startsWith("public ") && !called.contains(method.getName())) {
                Expect.tell("the example does not show " + method.getName());
            }
        }
    }

    private static String example() throws Exception {
        String text = Files.readString(Path.of("README.md"));
        String opening = "```java\n";
        int start = text.indexOf(opening) + opening.length();
        return text.substring(start, text.indexOf("\n```", start));
    }

    private void answer(String line, Matcher call) throws Exception {
        long got = ask(call.group(2), call.group(3).isEmpty() ? new String[0] : call.group(3).split(", "));
        Expect.equal(line, got, Long.parseLong(call.group(4)));
        if (call.group(1) != null) {
            names.put(call.group(1), (int) got);
        }
    }

    private long ask(String name, String[] arguments) throws Exception {
        called.add(name);
        Class<?>[] types = new Class<?>[arguments.length];
        Object[] values = new Object[arguments.length];
        for (int i = 0; i < arguments.length; i++) {
            types[i] = int.class;
            values[i] = names.containsKey(arguments[i]) ? names.get(arguments[i]) : Integer.valueOf(arguments[i]);
        }
        return ((Number) MeldTree.class.getMethod(name, types).invoke(tree, values)).longValue();
    }
}

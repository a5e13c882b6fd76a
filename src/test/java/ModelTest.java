import java.util.ArrayList;
import java.util.List;
import java.util.NoSuchElementException;
import java.util.Random;
import java.util.TreeMap;

/** All promises at once: runs of 512 calls with right and wrong inputs, beside a list of sorted maps. */
public final class ModelTest {
    private static final int RUNS = 400;
    private static final long NO_INDEX = Long.MIN_VALUE;
    private static final long NO_ELEMENT = Long.MIN_VALUE + 1;
    private static final long OTHER = Long.MIN_VALUE + 2;

    private final CountedTree tree = new CountedTree();
    private final List<TreeMap<Integer, Integer>> model = new ArrayList<>();
    private final Random random;
    private final int span;
    private int op;
    private int a;
    private int b;
    private int c;

    private ModelTest(int seed) {
        random = new Random(seed);
        span = seed % 3 == 0 ? 8 : 256;
        model.add(new TreeMap<>());
    }

    public static void main(String[] args) {
        Expect.holds("1 to 12: all 512 calls", ModelTest::answersAllCalls);
        Expect.holds("What it is: none ever changes, in long runs", ModelTest::keepsAllVersions);
        Expect.end();
    }

    private static void answersAllCalls() {
        for (int seed = 0; seed < RUNS; seed++) {
            new ModelTest(seed).run(seed, CountedTree.MOST_CALLS);
        }
    }

    /** Fewer calls, so that at the end each version can still be asked for within the 512. */
    private static void keepsAllVersions() {
        for (int seed = RUNS; seed < 2 * RUNS; seed++) {
            ModelTest model = new ModelTest(seed);
            model.run(seed, 300);
            model.compareVersions(seed);
        }
    }

    private void run(int seed, int calls) {
        for (int i = 0; i < calls; i++) {
            choose();
            long due = due();
            Expect.equal("seed " + seed + ", call " + i + ": op " + op + " of " + a + ", " + b + ", " + c, answer(), due);
        }
    }

    private void compareVersions(int seed) {
        for (int v = 0; v < model.size() && tree.callsLeft() > 0; v++) {
            Expect.equal("seed " + seed + ": digest(" + v + ") at the end", tree.digest(v), digest(model.get(v)));
        }
    }

    private void choose() {
        int[] often = {0, 0, 0, 0, 0, 0, 1, 1, 2, 2, 3, 4, 5, 6, 7, 8, 9, 10};
        op = often[random.nextInt(often.length)];
        a = version();
        b = op == 2 || op == 7 ? version() : key();
        c = op == 0 ? value() : key();
    }

    /** Mostly a late version, so that tables grow; now and then one that is not there. */
    private int version() {
        int kind = random.nextInt(20);
        if (kind == 0) {
            return random.nextBoolean() ? -1 : model.size();
        }
        return kind < 6 ? random.nextInt(model.size()) : model.size() - 1;
    }

    private int key() {
        int kind = random.nextInt(40);
        if (kind == 0) {
            int[] edges = {-1, 0, 255, 256, 257, Integer.MIN_VALUE, Integer.MAX_VALUE};
            return edges[random.nextInt(edges.length)];
        }
        return random.nextInt(span) * (256 / span);
    }

    private int value() {
        return random.nextInt(4) == 0 ? random.nextInt() : random.nextInt(3) - 1;
    }

    private long answer() {
        try {
            switch (op) {
                case 0: return tree.put(a, b, c);
                case 1: return tree.remove(a, b);
                case 2: return tree.join(a, b, c);
                case 3: return tree.get(a, b);
                case 4: return tree.select(a, b);
                case 5: return tree.many(a, b, c);
                case 6: return tree.sum(a, b, c);
                case 7: return tree.differ(a, b);
                case 8: return tree.digest(a);
                case 9: return tree.versions();
                default: return tree.check();
            }
        } catch (IndexOutOfBoundsException e) {
            return e.getClass() == IndexOutOfBoundsException.class ? NO_INDEX : OTHER;
        } catch (NoSuchElementException e) {
            return NO_ELEMENT;
        } catch (RuntimeException e) {
            return OTHER;
        }
    }

    private long due() {
        if (op == 9) {
            return model.size();
        }
        if (op == 10) {
            return 0;
        }
        if (a < 0 || a >= model.size()) {
            return NO_INDEX;
        }
        if ((op == 2 || op == 7) && (b < 0 || b >= model.size())) {
            return NO_INDEX;
        }
        if ((op == 0 || op == 1 || op == 3) && (b < 0 || b > 255)) {
            return NO_INDEX;
        }
        if (op == 2 && (c < 0 || c > 256)) {
            return NO_INDEX;
        }
        return op <= 2 ? dueNumber() : dueAnswer(model.get(a));
    }

    private long dueNumber() {
        TreeMap<Integer, Integer> made = new TreeMap<>(model.get(a));
        if (op == 0) {
            made.put(b, c);
        } else if (op == 1) {
            if (made.remove(b) == null) {
                return NO_ELEMENT;
            }
        } else {
            made.tailMap(c, true).clear();
            made.putAll(model.get(b).tailMap(c, true));
        }
        model.add(made);
        return model.size() - 1;
    }

    private long dueAnswer(TreeMap<Integer, Integer> table) {
        switch (op) {
            case 3: return table.containsKey(b) ? table.get(b) : NO_ELEMENT;
            case 4: return b < 0 || b >= table.size() ? NO_INDEX : new ArrayList<>(table.keySet()).get(b);
            case 5: return b < c ? table.subMap(b, c).size() : 0;
            case 6: return b < c ? table.subMap(b, c).values().stream().mapToLong(x -> x).sum() : 0;
            case 7: return differ(table, model.get(b));
            default: return digest(table);
        }
    }

    private static long differ(TreeMap<Integer, Integer> one, TreeMap<Integer, Integer> other) {
        long differ = 0;
        for (int k = 0; k < 256; k++) {
            Integer x = one.get(k);
            Integer y = other.get(k);
            differ += x == null ? (y == null ? 0 : 1) : (x.equals(y) ? 0 : 1);
        }
        return differ;
    }

    private static long digest(TreeMap<Integer, Integer> table) {
        long digest = 7;
        for (int k : table.keySet()) {
            digest = digest * 31 + k;
            digest = digest * 31 + table.get(k);
        }
        return digest;
    }
}

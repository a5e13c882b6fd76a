/** Promises 7 and 8: many and sum. */
public final class RangeTest {
    private static final int[] BOUNDS = {
        Integer.MIN_VALUE, -256, -1, 0, 1, 2, 3, 4, 63, 64, 65, 126, 127, 128, 129, 199, 200, 201, 254, 255, 256, 257,
        511, 512, Integer.MAX_VALUE
    };

    public static void main(String[] args) {
        asksEveryRange(new int[] {0, 5, 3, -7, 64, 100, 127, -1000, 128, 30, 200, 1, 255, 60000});
        asksEveryRange(new int[] {255, Integer.MAX_VALUE, 254, Integer.MAX_VALUE, 0, Integer.MAX_VALUE});
        asksEveryRange(new int[] {1, Integer.MIN_VALUE, 2, Integer.MIN_VALUE, 128, Integer.MIN_VALUE});
        asksEveryRange(new int[] {});
        sumsBeyondInts();
        refusesWrongInput();
        Expect.end();
    }

    private static void asksEveryRange(int[] keysAndValues) {
        MeldTree tree = new MeldTree();
        int v = Expect.table(tree, keysAndValues);
        for (int a : BOUNDS) {
            for (int b : BOUNDS) {
                int many = 0;
                long sum = 0;
                for (int i = 0; i < keysAndValues.length; i += 2) {
                    if (a <= keysAndValues[i] && keysAndValues[i] < b) {
                        many++;
                        sum += keysAndValues[i + 1];
                    }
                }
                Expect.equal("many(v, " + a + ", " + b + ")", tree.many(v, a, b), many);
                Expect.equal("sum(v, " + a + ", " + b + ")", tree.sum(v, a, b), sum);
            }
        }
    }

    private static void sumsBeyondInts() {
        MeldTree tree = new MeldTree();
        int most = 0;
        for (int k = 0; k < 256; k++) {
            most = tree.put(most, k, Integer.MAX_VALUE);
        }
        Expect.equal("many of all", tree.many(most, 0, 256), 256);
        Expect.equal("sum of all", tree.sum(most, 0, 256), 256L * Integer.MAX_VALUE);
        Expect.equal("sum of some", tree.sum(most, 1, 255), 254L * Integer.MAX_VALUE);
    }

    private static void refusesWrongInput() {
        MeldTree tree = new MeldTree();
        tree.put(0, 5, 7);
        for (int v : Expect.noVersions(tree)) {
            Expect.refused(tree, "many(" + v + ", 0, 256)", IndexOutOfBoundsException.class, () -> tree.many(v, 0, 256));
            Expect.refused(tree, "many(" + v + ", 9, 3)", IndexOutOfBoundsException.class, () -> tree.many(v, 9, 3));
            Expect.refused(tree, "sum(" + v + ", 0, 256)", IndexOutOfBoundsException.class, () -> tree.sum(v, 0, 256));
            Expect.refused(tree, "sum(" + v + ", 9, 3)", IndexOutOfBoundsException.class, () -> tree.sum(v, 9, 3));
        }
    }
}

/** Promise 8: sum. */
public final class SumTest {
    private static final Class<IndexOutOfBoundsException> NO_INDEX = IndexOutOfBoundsException.class;

    public static void main(String[] args) {
        Expect.holds("8: Their VALUES, added (those of the KEYS from a on)", SumTest::addsFromThere);
        Expect.holds("8: Their VALUES, added (those of the KEYS below b)", SumTest::addsBelow);
        Expect.holds("8: Their VALUES in that VERSION", SumTest::addsOfThatVersion);
        Expect.holds("8: 0 of no KEYS", SumTest::addsNone);
        Expect.holds("8: a long, above all ints", SumTest::addsAboveInts);
        Expect.holds("8: a long, below all ints", SumTest::addsBelowInts);
        Expect.holds("8: any ints, as by many", SumTest::takesAnyInts);
        Expect.holds("8: 0 if a is not below b, as by many", SumTest::answers0IfNotBelow);
        Expect.holds("8: each a and b, inside and outside", SumTest::addsEachRange);
        Expect.holds("8: Thrown as by many: no VERSION v", SumTest::refusesNoVersion);
        Expect.holds("8: Thrown as by many, also if a is not below b", SumTest::refusesNoVersionFirst);
        Expect.end();
    }

    private static void addsFromThere() {
        CountedTree tree = Expect.sample();
        Expect.equal("sum(3, 0, 256)", tree.sum(3, 0, 256), 0);
        Expect.equal("sum(3, 1, 256)", tree.sum(3, 1, 256), -10);
        Expect.equal("sum(3, 100, 256)", tree.sum(3, 100, 256), -10);
        Expect.equal("sum(3, 101, 256)", tree.sum(3, 101, 256), -30);
        Expect.equal("sum(3, 255, 256)", tree.sum(3, 255, 256), -30);
        Expect.equal("sum(3, 256, 257)", tree.sum(3, 256, 257), 0);
    }

    private static void addsBelow() {
        CountedTree tree = Expect.sample();
        Expect.equal("sum(3, 0, 255)", tree.sum(3, 0, 255), 30);
        Expect.equal("sum(3, 0, 101)", tree.sum(3, 0, 101), 30);
        Expect.equal("sum(3, 0, 100)", tree.sum(3, 0, 100), 10);
        Expect.equal("sum(3, 0, 1)", tree.sum(3, 0, 1), 10);
        Expect.equal("sum(3, -1, 0)", tree.sum(3, -1, 0), 0);
    }

    private static void addsOfThatVersion() {
        CountedTree tree = Expect.sample();
        tree.put(3, 100, 50);
        int[] due = {0, 10, 30, 0, -10, 30};
        for (int v = 0; v < due.length; v++) {
            Expect.equal("sum(" + v + ", 0, 256)", tree.sum(v, 0, 256), due[v]);
        }
    }

    private static void addsNone() {
        CountedTree tree = Expect.sample();
        Expect.equal("sum(0, 0, 256)", tree.sum(0, 0, 256), 0);
        Expect.equal("sum of the only key removed", tree.sum(tree.remove(1, 0), 0, 256), 0);
        Expect.equal("sum between keys", tree.sum(3, 101, 255), 0);
    }

    private static void addsAboveInts() {
        CountedTree tree = new CountedTree();
        for (int k = 0; k < 256; k++) {
            tree.put(k, k, Integer.MAX_VALUE);
        }
        Expect.equal("sum of 2 keys", tree.sum(2, 0, 256), 4294967294L);
        Expect.equal("sum of 256 keys", tree.sum(256, 0, 256), 549755813632L);
        Expect.equal("sum of 2 of 256 keys", tree.sum(256, 127, 129), 4294967294L);
        Expect.equal("sum of 254 of 256 keys", tree.sum(256, 1, 255), 545460846338L);
    }

    private static void addsBelowInts() {
        CountedTree tree = new CountedTree();
        for (int k = 0; k < 256; k++) {
            tree.put(k, k, Integer.MIN_VALUE);
        }
        Expect.equal("sum of 2 keys", tree.sum(2, 0, 256), -4294967296L);
        Expect.equal("sum of 256 keys", tree.sum(256, 0, 256), -549755813888L);
        Expect.equal("sum of 2 of 256 keys", tree.sum(256, 127, 129), -4294967296L);
    }

    private static void takesAnyInts() {
        CountedTree tree = new CountedTree();
        int v = Expect.table(tree, 0, 1, 100, 20, 255, 300);
        int least = Integer.MIN_VALUE;
        int most = Integer.MAX_VALUE;
        Expect.equal("sum(v, least, most)", tree.sum(v, least, most), 321);
        Expect.equal("sum(v, least, 0)", tree.sum(v, least, 0), 0);
        Expect.equal("sum(v, least, 1)", tree.sum(v, least, 1), 1);
        Expect.equal("sum(v, least, -1)", tree.sum(v, least, -1), 0);
        Expect.equal("sum(v, -1, 256)", tree.sum(v, -1, 256), 321);
        Expect.equal("sum(v, -256, -1)", tree.sum(v, -256, -1), 0);
        Expect.equal("sum(v, 0, 257)", tree.sum(v, 0, 257), 321);
        Expect.equal("sum(v, 255, most)", tree.sum(v, 255, most), 300);
        Expect.equal("sum(v, 256, most)", tree.sum(v, 256, most), 0);
        Expect.equal("sum(v, 257, 512)", tree.sum(v, 257, 512), 0);
    }

    private static void answers0IfNotBelow() {
        CountedTree tree = new CountedTree();
        int v = Expect.table(tree, 0, 1, 100, 20, 255, 300);
        int least = Integer.MIN_VALUE;
        int most = Integer.MAX_VALUE;
        Expect.equal("sum(v, 0, 0)", tree.sum(v, 0, 0), 0);
        Expect.equal("sum(v, 100, 100)", tree.sum(v, 100, 100), 0);
        Expect.equal("sum(v, 101, 100)", tree.sum(v, 101, 100), 0);
        Expect.equal("sum(v, 256, 0)", tree.sum(v, 256, 0), 0);
        Expect.equal("sum(v, most, least)", tree.sum(v, most, least), 0);
        Expect.equal("sum(v, 255, least)", tree.sum(v, 255, least), 0);
        Expect.equal("sum(v, most, 0)", tree.sum(v, most, 0), 0);
        Expect.equal("sum(v, most, most)", tree.sum(v, most, most), 0);
        Expect.equal("sum(v, least, least)", tree.sum(v, least, least), 0);
    }

    private static void addsEachRange() {
        addsEachRangeOf(0, 5, 3, -7, 64, 100, 127, -1000, 128, 30, 200, 1, 255, 60000);
        addsEachRangeOf(255, Integer.MAX_VALUE, 254, Integer.MAX_VALUE, 0, Integer.MAX_VALUE);
        addsEachRangeOf(1, Integer.MIN_VALUE, 2, Integer.MIN_VALUE, 128, Integer.MIN_VALUE);
    }

    private static void addsEachRangeOf(int... keysAndValues) {
        for (int a : Ranges.BOUNDS) {
            CountedTree tree = new CountedTree();
            int v = Expect.table(tree, keysAndValues);
            for (int b : Ranges.BOUNDS) {
                long due = 0;
                for (int i = 0; i < keysAndValues.length; i += 2) {
                    due += a <= keysAndValues[i] && keysAndValues[i] < b ? keysAndValues[i + 1] : 0;
                }
                Expect.equal("sum(v, " + a + ", " + b + ")", tree.sum(v, a, b), due);
            }
        }
    }

    private static void refusesNoVersion() {
        for (int v : Expect.NO_VERSIONS) {
            Expect.refused("sum(" + v + ", 0, 256)", NO_INDEX, tree -> tree.sum(v, 0, 256));
        }
    }

    private static void refusesNoVersionFirst() {
        for (int v : Expect.NO_VERSIONS) {
            Expect.refused("sum(" + v + ", 9, 9)", NO_INDEX, tree -> tree.sum(v, 9, 9));
            Expect.refused("sum(" + v + ", 9, 3)", NO_INDEX, tree -> tree.sum(v, 9, 3));
        }
    }
}

/** Promise 7: many. */
public final class ManyTest {
    private static final Class<IndexOutOfBoundsException> NO_INDEX = IndexOutOfBoundsException.class;

    public static void main(String[] args) {
        Expect.holds("7: How many KEYS v has from a on", ManyTest::countsFromThere);
        Expect.holds("7: How many KEYS v has below b", ManyTest::countsBelow);
        Expect.holds("7: How many KEYS that VERSION has", ManyTest::countsOfThatVersion);
        Expect.holds("7: 0 of no KEYS, 256 of all", ManyTest::countsNoneAndAll);
        Expect.holds("7: any ints", ManyTest::takesAnyInts);
        Expect.holds("7: 0 if a is not below b", ManyTest::answers0IfNotBelow);
        Expect.holds("7: each a and b, inside and outside", ManyTest::countsEachRange);
        Expect.holds("7: IndexOutOfBoundsException if there is no VERSION v", ManyTest::refusesNoVersion);
        Expect.holds("7: IndexOutOfBoundsException also if a is not below b", ManyTest::refusesNoVersionFirst);
        Expect.end();
    }

    private static void countsFromThere() {
        CountedTree tree = Expect.sample();
        Expect.equal("many(3, 0, 256)", tree.many(3, 0, 256), 3);
        Expect.equal("many(3, 1, 256)", tree.many(3, 1, 256), 2);
        Expect.equal("many(3, 100, 256)", tree.many(3, 100, 256), 2);
        Expect.equal("many(3, 101, 256)", tree.many(3, 101, 256), 1);
        Expect.equal("many(3, 255, 256)", tree.many(3, 255, 256), 1);
        Expect.equal("many(3, 256, 257)", tree.many(3, 256, 257), 0);
    }

    private static void countsBelow() {
        CountedTree tree = Expect.sample();
        Expect.equal("many(3, 0, 255)", tree.many(3, 0, 255), 2);
        Expect.equal("many(3, 0, 101)", tree.many(3, 0, 101), 2);
        Expect.equal("many(3, 0, 100)", tree.many(3, 0, 100), 1);
        Expect.equal("many(3, 0, 1)", tree.many(3, 0, 1), 1);
        Expect.equal("many(3, -1, 0)", tree.many(3, -1, 0), 0);
    }

    private static void countsOfThatVersion() {
        CountedTree tree = Expect.sample();
        int[] due = {0, 1, 2, 3, 2};
        for (int v = 0; v < due.length; v++) {
            Expect.equal("many(" + v + ", 0, 256)", tree.many(v, 0, 256), due[v]);
        }
    }

    private static void countsNoneAndAll() {
        CountedTree tree = new CountedTree();
        for (int k = 0; k < 256; k++) {
            tree.put(k, k, -k);
        }
        Expect.equal("many(0, 0, 256)", tree.many(0, 0, 256), 0);
        Expect.equal("many(256, 0, 256)", tree.many(256, 0, 256), 256);
        Expect.equal("many(256, 1, 255)", tree.many(256, 1, 255), 254);
        Expect.equal("many(256, 128, 129)", tree.many(256, 128, 129), 1);
    }

    private static void takesAnyInts() {
        CountedTree tree = Expect.sample();
        int least = Integer.MIN_VALUE;
        int most = Integer.MAX_VALUE;
        Expect.equal("many(3, least, most)", tree.many(3, least, most), 3);
        Expect.equal("many(3, least, 0)", tree.many(3, least, 0), 0);
        Expect.equal("many(3, least, 1)", tree.many(3, least, 1), 1);
        Expect.equal("many(3, least, -1)", tree.many(3, least, -1), 0);
        Expect.equal("many(3, -1, 256)", tree.many(3, -1, 256), 3);
        Expect.equal("many(3, -256, -1)", tree.many(3, -256, -1), 0);
        Expect.equal("many(3, 0, 257)", tree.many(3, 0, 257), 3);
        Expect.equal("many(3, 255, most)", tree.many(3, 255, most), 1);
        Expect.equal("many(3, 256, most)", tree.many(3, 256, most), 0);
        Expect.equal("many(3, 257, 512)", tree.many(3, 257, 512), 0);
    }

    private static void answers0IfNotBelow() {
        CountedTree tree = Expect.sample();
        int least = Integer.MIN_VALUE;
        int most = Integer.MAX_VALUE;
        Expect.equal("many(3, 0, 0)", tree.many(3, 0, 0), 0);
        Expect.equal("many(3, 100, 100)", tree.many(3, 100, 100), 0);
        Expect.equal("many(3, 101, 100)", tree.many(3, 101, 100), 0);
        Expect.equal("many(3, 256, 0)", tree.many(3, 256, 0), 0);
        Expect.equal("many(3, most, least)", tree.many(3, most, least), 0);
        Expect.equal("many(3, 255, least)", tree.many(3, 255, least), 0);
        Expect.equal("many(3, most, 0)", tree.many(3, most, 0), 0);
        Expect.equal("many(3, most, most)", tree.many(3, most, most), 0);
        Expect.equal("many(3, least, least)", tree.many(3, least, least), 0);
    }

    private static void countsEachRange() {
        int[] keysAndValues = {0, 5, 3, -7, 64, 100, 127, -1000, 128, 30, 200, 1, 255, 60000};
        for (int a : Ranges.BOUNDS) {
            CountedTree tree = new CountedTree();
            int v = Expect.table(tree, keysAndValues);
            for (int b : Ranges.BOUNDS) {
                int due = 0;
                for (int i = 0; i < keysAndValues.length; i += 2) {
                    due += a <= keysAndValues[i] && keysAndValues[i] < b ? 1 : 0;
                }
                Expect.equal("many(v, " + a + ", " + b + ")", tree.many(v, a, b), due);
            }
        }
    }

    private static void refusesNoVersion() {
        for (int v : Expect.NO_VERSIONS) {
            Expect.refused("many(" + v + ", 0, 256)", NO_INDEX, tree -> tree.many(v, 0, 256));
        }
    }

    private static void refusesNoVersionFirst() {
        for (int v : Expect.NO_VERSIONS) {
            Expect.refused("many(" + v + ", 9, 9)", NO_INDEX, tree -> tree.many(v, 9, 9));
            Expect.refused("many(" + v + ", 9, 3)", NO_INDEX, tree -> tree.many(v, 9, 3));
        }
    }
}

/** 'What it is': an object is used for at most 512 calls; each of them is answered. */
public final class LimitTest {
    public static void main(String[] args) {
        Expect.holds("What it is: 512 calls, all of them put", LimitTest::puts512Times);
        Expect.holds("What it is: 512 calls, all but one of them remove", LimitTest::removes511Times);
        Expect.holds("What it is: 512 calls, all of them join", LimitTest::joins512Times);
        Expect.holds("What it is: none ever changes, up to the 512th call", LimitTest::keepsAllTo512Calls);
        Expect.end();
    }

    private static void puts512Times() {
        CountedTree tree = new CountedTree();
        for (int v = 0; v < 512; v++) {
            Expect.equal("put as call " + (v + 1), tree.put(v, v * 37 & 255, v), v + 1);
        }
    }

    private static void removes511Times() {
        CountedTree tree = new CountedTree();
        tree.put(0, 77, 1);
        for (int i = 0; i < 511; i++) {
            Expect.equal("remove as call " + (i + 2), tree.remove(1, 77), i + 2);
        }
    }

    private static void joins512Times() {
        CountedTree tree = new CountedTree();
        for (int v = 0; v < 512; v++) {
            Expect.equal("join as call " + (v + 1), tree.join(v, v / 2, v % 257), v + 1);
        }
    }

    private static void keepsAllTo512Calls() {
        for (int asked = 0; asked <= 511; asked++) {
            CountedTree tree = new CountedTree();
            for (int v = 0; v < 511; v++) {
                tree.put(v, 1, v + 1);
            }
            Expect.equal("sum(" + asked + ", 0, 256) as call 512", tree.sum(asked, 0, 256), asked);
        }
    }
}

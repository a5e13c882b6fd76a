/**
 * A MeldTree that counts its calls. The document leaves free what calls after the 512th answer, so a test that
 * asks one would refuse a right program.
 */
final class CountedTree {
    static final int MOST_CALLS = 512;

    private final MeldTree tree = new MeldTree();
    private int calls = 0;

    int put(int v, int k, int x) {
        return counted().put(v, k, x);
    }

    int remove(int v, int k) {
        return counted().remove(v, k);
    }

    int join(int v, int w, int k) {
        return counted().join(v, w, k);
    }

    int get(int v, int k) {
        return counted().get(v, k);
    }

    int select(int v, int i) {
        return counted().select(v, i);
    }

    int many(int v, int a, int b) {
        return counted().many(v, a, b);
    }

    long sum(int v, int a, int b) {
        return counted().sum(v, a, b);
    }

    int differ(int v, int w) {
        return counted().differ(v, w);
    }

    long digest(int v) {
        return counted().digest(v);
    }

    int versions() {
        return counted().versions();
    }

    int check() {
        return counted().check();
    }

    /** How many calls the document still promises an answer to. */
    int callsLeft() {
        return MOST_CALLS - calls;
    }

    private MeldTree counted() {
        calls++;
        if (calls > MOST_CALLS) {
            throw new AssertionError("the test makes more than 512 calls on one object");
        }
        return tree;
    }
}

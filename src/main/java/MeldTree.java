import java.util.ArrayList;
import java.util.NoSuchElementException;

/**
 * Versions of a table of keys (0 to 255) with values. Each version is a binary tree over the bits of
 * the keys, the highest bit at the root; a new version makes the nodes on the way to one key anew and
 * shares all others with the versions that it comes of.
 */
public final class MeldTree {
    private static final int KEYS = 256;
    private static final int ROOT_HEIGHT = 8;
    private static final int MOST_VERSIONS = 600;
    private static final long DIGEST_START = 7;
    private static final long DIGEST_FACTOR = 31;

    private final Node[] roots;
    // Every node once, so that check need not walk what versions share again and again.
    private final ArrayList<Node> nodes;
    private int count;

    public MeldTree() {
        roots = new Node[MOST_VERSIONS];
        nodes = new ArrayList<>();
        count = 1;
    }

    public int put(int v, int k, int x) throws IndexOutOfBoundsException, IllegalStateException {
        needVersion(v);
        needKey(k);
        needRoom();
        Node leaf = new Node(k, x);
        nodes.add(leaf);
        return keep(meld(roots[v], roots[v], ROOT_HEIGHT, k, leaf, nodes));
    }

    public int remove(int v, int k)
            throws IndexOutOfBoundsException, IllegalStateException, NoSuchElementException {
        needVersion(v);
        needKey(k);
        needRoom();
        if (leafAt(roots[v], k) == null) {
            throw new NoSuchElementException("the version has not this key");
        }
        return keep(meld(roots[v], roots[v], ROOT_HEIGHT, k, null, nodes));
    }

    public int join(int v, int w, int k) throws IndexOutOfBoundsException, IllegalStateException {
        needVersion(v);
        needVersion(w);
        if (k < 0 || k > KEYS) {
            throw new IndexOutOfBoundsException("keys are parted at 0 to 256");
        }
        needRoom();
        if (k == KEYS) {
            return keep(roots[v]);
        }
        return keep(meld(roots[v], roots[w], ROOT_HEIGHT, k, leafAt(roots[w], k), nodes));
    }

    public int get(int v, int k) throws IndexOutOfBoundsException, NoSuchElementException {
        needVersion(v);
        needKey(k);
        Node leaf = leafAt(roots[v], k);
        if (leaf == null) {
            throw new NoSuchElementException("the version has not this key");
        }
        return leaf.value;
    }

    public int select(int v, int i) throws IndexOutOfBoundsException {
        needVersion(v);
        if (i < 0 || i >= sizeOf(roots[v])) {
            throw new IndexOutOfBoundsException("the version has not so many keys");
        }
        return keyAt(roots[v], i);
    }

    public int many(int v, int a, int b) throws IndexOutOfBoundsException {
        needVersion(v);
        return a < b ? sizeBelow(roots[v], b) - sizeBelow(roots[v], a) : 0;
    }

    public long sum(int v, int a, int b) throws IndexOutOfBoundsException {
        needVersion(v);
        return a < b ? totalBelow(roots[v], b) - totalBelow(roots[v], a) : 0;
    }

    public int differ(int v, int w) throws IndexOutOfBoundsException {
        needVersion(v);
        needVersion(w);
        return differences(roots[v], roots[w], ROOT_HEIGHT);
    }

    public long digest(int v) throws IndexOutOfBoundsException {
        needVersion(v);
        return digestOn(DIGEST_START, roots[v], ROOT_HEIGHT);
    }

    public int versions() {
        return count;
    }

    public int check() {
        int wrong = 0;
        for (int v = 0; v < count; v++) {
            wrong += isAt(roots[v], ROOT_HEIGHT, 0) ? 0 : 1;
        }
        for (int i = 0; i < nodes.size(); i++) {
            wrong += faultsOf(nodes.get(i));
        }
        return wrong;
    }

    private void needVersion(int v) {
        if (v < 0 || v >= count) {
            throw new IndexOutOfBoundsException("no such version");
        }
    }

    private static void needKey(int k) {
        if (k < 0 || k >= KEYS) {
            throw new IndexOutOfBoundsException("keys are 0 to 255");
        }
    }

    private void needRoom() {
        if (count >= MOST_VERSIONS) {
            throw new IllegalStateException("there are 600 versions");
        }
    }

    private int keep(Node root) {
        int number = count;
        roots[number] = root;
        count++;
        return number;
    }

    /**
     * The tree of the keys of v below k, of the leaf at k (null: no such key) and of the keys of w above
     * k. What it makes it adds to made.
     */
    private static Node meld(Node v, Node w, int height, int k, Node leaf, ArrayList<Node> made) {
        if (height <= 0) {
            return leaf;
        }
        Node low;
        Node high;
        if (goesHigh(k, height)) {
            low = lowOf(v);
            high = meld(highOf(v), highOf(w), height - 1, k, leaf, made);
        } else {
            low = meld(lowOf(v), lowOf(w), height - 1, k, leaf, made);
            high = highOf(w);
        }
        // A node without keys would make the tree's shape tell of keys that were once there.
        if (low == null && high == null) {
            return null;
        }
        Node node = new Node(height, k, low, high);
        made.add(node);
        return node;
    }

    private static boolean goesHigh(int k, int height) {
        return (k >> (height - 1) & 1) == 1;
    }

    private static Node leafAt(Node root, int k) {
        Node node = root;
        for (int height = ROOT_HEIGHT; height > 0; height--) {
            node = goesHigh(k, height) ? highOf(node) : lowOf(node);
        }
        return node;
    }

    private static int keyAt(Node root, int i) {
        Node node = root;
        int key = 0;
        int left = i;
        for (int height = ROOT_HEIGHT; height > 0; height--) {
            int lows = sizeOf(lowOf(node));
            if (left < lows) {
                key = 2 * key;
                node = lowOf(node);
            } else {
                key = 2 * key + 1;
                left -= lows;
                node = highOf(node);
            }
        }
        return key;
    }

    private static int sizeBelow(Node root, int bound) {
        if (bound <= 0) {
            return 0;
        }
        if (bound >= KEYS) {
            return sizeOf(root);
        }
        Node node = root;
        int size = 0;
        for (int height = ROOT_HEIGHT; height > 0; height--) {
            if (goesHigh(bound, height)) {
                size += sizeOf(lowOf(node));
                node = highOf(node);
            } else {
                node = lowOf(node);
            }
        }
        return size;
    }

    private static long totalBelow(Node root, int bound) {
        if (bound <= 0) {
            return 0;
        }
        if (bound >= KEYS) {
            return totalOf(root);
        }
        Node node = root;
        long total = 0;
        for (int height = ROOT_HEIGHT; height > 0; height--) {
            if (goesHigh(bound, height)) {
                total += totalOf(lowOf(node));
                node = highOf(node);
            } else {
                node = lowOf(node);
            }
        }
        return total;
    }

    private static int differences(Node v, Node w, int height) {
        // Nodes never change, so a shared one has no differences below it.
        if (v == w) {
            return 0;
        }
        if (v == null || w == null) {
            return sizeOf(v) + sizeOf(w);
        }
        if (height <= 0) {
            return v.value == w.value ? 0 : 1;
        }
        return differences(v.low, w.low, height - 1) + differences(v.high, w.high, height - 1);
    }

    private static long digestOn(long start, Node node, int height) {
        if (node == null) {
            return start;
        }
        if (height <= 0) {
            return (start * DIGEST_FACTOR + node.first) * DIGEST_FACTOR + node.value;
        }
        return digestOn(digestOn(start, node.low, height - 1), node.high, height - 1);
    }

    private static boolean isAt(Node node, int height, int first) {
        return node == null || node.height == height && node.first == first;
    }

    private static int faultsOf(Node node) {
        if (node == null) {
            return 1;
        }
        return node.height <= 0 ? faultsOfLeaf(node) : faultsOfFork(node);
    }

    private static int faultsOfLeaf(Node leaf) {
        int wrong = leaf.low == null && leaf.high == null ? 0 : 1;
        wrong += leaf.size == 1 ? 0 : 1;
        wrong += leaf.total == leaf.value ? 0 : 1;
        return wrong;
    }

    private static int faultsOfFork(Node fork) {
        int below = fork.height - 1;
        int wrong = isAt(fork.low, below, fork.first) ? 0 : 1;
        wrong += isAt(fork.high, below, fork.first + (1 << below)) ? 0 : 1;
        wrong += fork.low == null && fork.high == null ? 1 : 0;
        wrong += fork.size == sizeOf(fork.low) + sizeOf(fork.high) ? 0 : 1;
        wrong += fork.total == totalOf(fork.low) + totalOf(fork.high) ? 0 : 1;
        return wrong;
    }

    private static Node lowOf(Node node) {
        return node == null ? null : node.low;
    }

    private static Node highOf(Node node) {
        return node == null ? null : node.high;
    }

    private static int sizeOf(Node node) {
        return node == null ? 0 : node.size;
    }

    private static long totalOf(Node node) {
        return node == null ? 0 : node.total;
    }

    /** What a version has of the keys from first on and below first + 2^height; null if it has none. */
    private static final class Node {
        private final int height;
        private final int first;
        private final Node low;
        private final Node high;
        private final int value;
        private final int size;
        private final long total;

        private Node(int key, int value) {
            this.height = 0;
            this.first = key;
            this.low = null;
            this.high = null;
            this.value = value;
            this.size = 1;
            this.total = value;
        }

        private Node(int height, int someKey, Node low, Node high) {
            this.height = height;
            this.first = someKey >> height << height;
            this.low = low;
            this.high = high;
            this.value = 0;
            this.size = sizeOf(low) + sizeOf(high);
            this.total = totalOf(low) + totalOf(high);
        }
    }
}

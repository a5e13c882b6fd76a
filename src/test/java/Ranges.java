/** The ends of ranges that many and sum are asked for: about the keys, and outside. */
final class Ranges {
    static final int[] BOUNDS = {
        Integer.MIN_VALUE, -256, -1, 0, 1, 2, 3, 4, 63, 64, 65, 126, 127, 128, 129, 199, 200, 201, 254, 255, 256, 257,
        511, 512, Integer.MAX_VALUE
    };

    private Ranges() {
    }
}

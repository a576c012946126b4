/** Numbers outside of every range of the document, some of which fall into one if bits are cut off. */
final class Far {
    static final int[] INTS = {Integer.MIN_VALUE, Integer.MIN_VALUE + 1, Integer.MIN_VALUE + 2, Integer.MIN_VALUE + 10,
        Integer.MIN_VALUE + 11, -1 << 24, -65535, -255, -12, -11, -10, -3, -2, -1, 257, 65537, (1 << 24) + 1,
        Integer.MAX_VALUE - 1, Integer.MAX_VALUE};
    static final long[] LONGS = {Long.MIN_VALUE, Long.MIN_VALUE + 1, -1L << 32, 1 - (1L << 32), -1000000, -2, -1,
        1L << 32, (1L << 32) + 1, (1L << 33) + 5, 1L << 62, (1L << 62) + 1, Long.MAX_VALUE - 1, Long.MAX_VALUE};

    private Far() {
    }
}

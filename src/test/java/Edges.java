import java.util.Arrays;
import java.util.stream.IntStream;

/** Numbers at the ends of int, and just behind the ends of a range. */
final class Edges {
    /** The ends of int, numbers whose products go beyond them, and those round 0. */
    static final int[] INTS = {Integer.MIN_VALUE, Integer.MIN_VALUE + 1, -65536, -46341, -2, -1, 0, 1, 2,
        46340, 46341, 65536, Integer.MAX_VALUE - 1, Integer.MAX_VALUE};

    private Edges() {
    }

    /** Just outside, at the ends of int, and such as look right if only their low bits are looked at. */
    static int[] outside(int low, int high) {
        IntStream near = IntStream.of(low - 1, high + 1, low + 32, low - 32, low + 256, low + 65536);
        IntStream far = IntStream.of(Integer.MIN_VALUE, Integer.MIN_VALUE + high, Integer.MAX_VALUE);
        return IntStream.concat(near, far).filter(n -> n < low || n > high).distinct().toArray();
    }

    /** Outside a set of numbers: those behind its ends, and the holes in it. */
    static int[] outside(int[] allowed) {
        int[] sorted = Arrays.stream(allowed).sorted().toArray();
        int low = sorted[0];
        int high = sorted[sorted.length - 1];
        IntStream holes = IntStream.range(low, high).filter(n -> Arrays.binarySearch(sorted, n) < 0);
        return IntStream.concat(holes, Arrays.stream(outside(low, high))).toArray();
    }
}

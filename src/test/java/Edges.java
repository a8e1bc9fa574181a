import java.util.stream.IntStream;
import java.util.stream.LongStream;

/** Numbers beside a range: next to its ends, far from them, and those that wrap around into it. */
final class Edges {
    private Edges() {
    }

    static int[] outside(int low, int high) {
        return IntStream.of(low - 1, high + 1, Integer.MIN_VALUE, Integer.MIN_VALUE + 1, -1000,
                (1 << 16) + low, (1 << 27) + low, (1 << 29) + low, (1 << 30) + low,
                Integer.MAX_VALUE - 1, Integer.MAX_VALUE)
            .filter(number -> number < low || number > high).toArray();
    }

    static long[] outside(long low, long high) {
        return LongStream.of(low - 1, high + 1, Long.MIN_VALUE, Long.MIN_VALUE + 1, -(1L << 32) + low,
                (1L << 32) + low, (1L << 32) + high, (1L << 60) + low, (1L << 62) + low,
                Long.MAX_VALUE - 1, Long.MAX_VALUE)
            .filter(number -> number < low || number > high).toArray();
    }
}

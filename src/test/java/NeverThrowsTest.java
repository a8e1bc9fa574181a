/**
 * Any arguments, in any state: no call may throw, which would end this test
 * with exit code 1. What is answered beyond the 512th call is free, so the
 * answers are not looked at.
 */
public final class NeverThrowsTest {
    private static final int[] INTS = {
        Integer.MIN_VALUE, Integer.MIN_VALUE + 1, -1001, -1, 0, 1, 2, 3, 4, 5, 6, 15, 16, 17, 32, 33, 59, 60, 61,
        127, 128, 499, 500, 501, Integer.MAX_VALUE - 1, Integer.MAX_VALUE
    };
    private static final long[] LONGS = {
        Long.MIN_VALUE, -1, 0, 1, 1000000, 1000001, 1L << 40, (1L << 40) + 1, 1L << 41, Long.MAX_VALUE
    };

    public static void main(String[] args) {
        everyEdge(new ProtectHooks());
        everyEdge(Systems.of(10, 60));
        everyEdge(Systems.of(0, 60, 1));
        everyEdge(Systems.of(10, 2, 4));
        everyEdge(Systems.down());
        everyEdge(Systems.small());
        everyEdge(Systems.full());
        everyEdge(Systems.fullAndDown());
        ProtectHooks x = Systems.of(10, 1, 1);
        for (int i = 0; i < 100000; i++) {
            x.fault(1, 1);
        }
        everyEdge(x);
    }

    private static void everyEdge(ProtectHooks x) {
        for (int a : INTS) {
            x.application(a);
            x.state(a);
            for (int b : INTS) {
                x.cleaned(a, b);
                x.log(a, b);
                x.hook(a, b, false);
                x.fault(a, b);
                for (int c : INTS) {
                    x.holds(a, b, c);
                }
            }
            for (long b : LONGS) {
                x.task(a, b);
                x.arrival(a, b);
                x.trusted(a, b);
                x.access(a, b);
                for (long c : LONGS) {
                    x.region(a, b, c);
                }
            }
        }
    }
}

public final class Promise11AccessTest {
    private static final long TOP = 1L << 40;

    public static void main(String[] args) {
        Check check = new Check();
        edgesOfARegion(check);
        highAddresses(check);
        noRegionAtAll(check);
        inARegionChangesNothing(check);
        reactionsOfTheFault(check);
        noSuchTaskIsRefused(check);
        notAliveIsRefused(check);
        downIsRefused(check);
        whichRefusalIsFirst(check);
        check.end();
    }

    /** "if not, that is a FAULT of kind 2" */
    private static void edgesOfARegion(Check check) {
        ProtectHooks x = Systems.of(0, 1, 1);
        x.region(1, 100, 10);
        check.due("access(1, 100)", x.access(1, 100), 1);
        check.due("access(1, 109)", x.access(1, 109), 1);
        check.due("log(-1, 0)", x.log(-1, 0), 0);
        check.due("access(1, 99)", x.access(1, 99), -1);
        check.due("access(1, 110)", x.access(1, 110), -1);
        check.due("log(-1, 0)", x.log(-1, 0), 2);
        check.dueLine(x, 0, 1, 2, 0, 1);
        check.dueLine(x, 1, 1, 2, 0, 1);
    }

    private static void highAddresses(Check check) {
        ProtectHooks x = Systems.of(0, 1, 1);
        x.region(1, TOP, TOP);
        check.due("access(1, 2^40 - 1)", x.access(1, TOP - 1), -1);
        check.due("access(1, 2^40)", x.access(1, TOP), 1);
        check.due("access(1, 2^41 - 1)", x.access(1, 2 * TOP - 1), 1);
        check.due("access(1, 2^41)", x.access(1, 2 * TOP), -1);
        check.due("access(1, MAX)", x.access(1, Long.MAX_VALUE), -1);
        check.due("access(1, MIN)", x.access(1, Long.MIN_VALUE), -1);
        check.due("log(-1, 0)", x.log(-1, 0), 4);
    }

    private static void noRegionAtAll(Check check) {
        ProtectHooks x = Systems.of(0, 1);
        check.due("access(1, 0), no region", x.access(1, 0), -2);
        check.dueLine(x, 0, 1, 2, 3, 2);
        check.due("access(1, 0), not alive", x.access(1, 0), -3000);
    }

    private static void inARegionChangesNothing(Check check) {
        check.refused("access(1, 100)", Systems::small, x -> x.access(1, 100), 1);
        check.refused("access(3, 0)", Systems::small, x -> x.access(3, 0), 1);
    }

    /** "minus its REACTION" */
    private static void reactionsOfTheFault(Check check) {
        for (int does = 1; does <= 5; does++) {
            ProtectHooks x = Systems.of(1, 1);
            x.hook(1, does, false);
            check.due("access(1, -1)", x.access(1, -1), -does);
            check.dueLine(x, 0, 1, 2, 1, does);
        }
        ProtectHooks none = Systems.of(0, 1, 4);
        check.due("access(1, 0), no restarts left", none.access(1, 0), -3);
        check.due("state(1)", none.state(1), 1);
        ProtectHooks failing = Systems.of(0, 1);
        failing.hook(2, 0, true);
        check.due("access(1, 0), a hook fails", failing.access(1, 0), -5);
        check.due("state(1)", failing.state(1), 2);
    }

    /** "-1000 there is no task" */
    private static void noSuchTaskIsRefused(Check check) {
        for (int task : Edges.outside(1, 5)) {
            check.refused("access(" + task + ", 100)", Systems::small, x -> x.access(task, 100), -1000);
            check.refused("access(" + task + ", 99)", Systems::small, x -> x.access(task, 99), -1000);
        }
        for (int task : Edges.outside(1, 60)) {
            check.refused("access(" + task + ", 0), full", Systems::full, x -> x.access(task, 0), -1000);
        }
        check.due("access(60, 0), full", Systems.full().access(60, 0), -2);
    }

    /** "-3000 as for arrival()" */
    private static void notAliveIsRefused(Check check) {
        check.refused("access(4, 100), not alive", Systems::small, x -> x.access(4, 100), -3000);
        check.refused("access(4, 99), not alive", Systems::small, x -> x.access(4, 99), -3000);
        check.refused("access(5, 0), its application has ended", Systems::ended, x -> x.access(5, 0), -3000);
    }

    /** "-3000 as for arrival()" */
    private static void downIsRefused(Check check) {
        check.refused("access(1, 100), down", Systems::smallDown, x -> x.access(1, 100), -3000);
        check.refused("access(1, MIN), down", Systems::smallDown, x -> x.access(1, Long.MIN_VALUE), -3000);
    }

    /** "the first that fits" */
    private static void whichRefusalIsFirst(Check check) {
        check.refused("access(6, 100), down", Systems::smallDown, x -> x.access(6, 100), -1000);
        check.refused("access(0, 99), down", Systems::smallDown, x -> x.access(0, 99), -1000);
    }
}

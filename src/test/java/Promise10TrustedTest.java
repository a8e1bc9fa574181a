public final class Promise10TrustedTest {
    private static final long TOP = 1L << 40;

    public static void main(String[] args) {
        Check check = new Check();
        noRegionAtAll(check);
        edgesOfRegions(check);
        theEighthRegion(check);
        onlyItsOwnApplication(check);
        highAddresses(check);
        addressesDoNotWrapAround(check);
        noSuchTaskIsRefused(check);
        itOnlyTells(check);
        toldInAnyState(check);
        check.end();
    }

    private static void noRegionAtAll(Check check) {
        ProtectHooks x = Systems.of(0, 1);
        long[] addresses = {Long.MIN_VALUE, -1, 0, 1, TOP, Long.MAX_VALUE};
        for (long address : addresses) {
            check.due("trusted(1, " + address + "), no region", x.trusted(1, address), 0);
        }
    }

    /** "A region of addresses, from one on so many" */
    private static void edgesOfRegions(Check check) {
        ProtectHooks x = Systems.of(0, 1);
        x.region(1, 100, 10);
        x.region(1, 105, 20);
        x.region(1, 0, 1);
        check.due("trusted(1, 99)", x.trusted(1, 99), 0);
        check.due("trusted(1, 100)", x.trusted(1, 100), 1);
        check.due("trusted(1, 109)", x.trusted(1, 109), 1);
        check.due("trusted(1, 110), in the second", x.trusted(1, 110), 1);
        check.due("trusted(1, 124)", x.trusted(1, 124), 1);
        check.due("trusted(1, 125)", x.trusted(1, 125), 0);
        check.due("trusted(1, 0), a region of one", x.trusted(1, 0), 1);
        check.due("trusted(1, 1)", x.trusted(1, 1), 0);
        check.due("trusted(1, -1)", x.trusted(1, -1), 0);
    }

    private static void theEighthRegion(Check check) {
        ProtectHooks x = Systems.of(0, 1);
        for (int i = 1; i <= 9; i++) {
            x.region(1, 1000L * i, 1);
        }
        for (int i = 1; i <= 8; i++) {
            check.due("trusted(1, " + 1000 * i + ")", x.trusted(1, 1000L * i), 1);
        }
        check.due("trusted(1, 9000), of the ninth", x.trusted(1, 9000), 0);
    }

    /** "in a region of a task's application" */
    private static void onlyItsOwnApplication(Check check) {
        ProtectHooks x = Systems.of(0, 2);
        x.application(0);
        x.task(2, 0);
        x.region(1, 10, 5);
        x.region(2, 20, 5);
        check.due("trusted(1, 10)", x.trusted(1, 10), 1);
        check.due("trusted(2, 10), of the same application", x.trusted(2, 10), 1);
        check.due("trusted(3, 10)", x.trusted(3, 10), 0);
        check.due("trusted(1, 20)", x.trusted(1, 20), 0);
        check.due("trusted(3, 20)", x.trusted(3, 20), 1);
    }

    private static void highAddresses(Check check) {
        ProtectHooks x = Systems.of(0, 1);
        x.region(1, TOP, TOP);
        check.due("trusted(1, 2^40 - 1)", x.trusted(1, TOP - 1), 0);
        check.due("trusted(1, 2^40)", x.trusted(1, TOP), 1);
        check.due("trusted(1, 2^41 - 1)", x.trusted(1, 2 * TOP - 1), 1);
        check.due("trusted(1, 2^41)", x.trusted(1, 2 * TOP), 0);
        check.due("trusted(1, MAX)", x.trusted(1, Long.MAX_VALUE), 0);
        check.due("trusted(1, MIN)", x.trusted(1, Long.MIN_VALUE), 0);
        check.due("trusted(1, 0)", x.trusted(1, 0), 0);
    }

    private static void addressesDoNotWrapAround(Check check) {
        ProtectHooks x = Systems.of(0, 1);
        x.region(1, 0, 100);
        x.region(1, 200, TOP);
        long[] addresses = {
            1L << 42, 1L << 62, (1L << 62) + 5, Long.MAX_VALUE, Long.MAX_VALUE - 199, Long.MIN_VALUE,
            Long.MIN_VALUE + 5, Long.MIN_VALUE + 200, Long.MIN_VALUE + 199, -1, -100, -TOP
        };
        for (long address : addresses) {
            check.due("trusted(1, " + address + ")", x.trusted(1, address), 0);
        }
        ProtectHooks low = Systems.of(0, 1);
        low.region(1, 0, 100);
        check.due("trusted(1, 2^32 + 5)", low.trusted(1, (1L << 32) + 5), 0);
        check.due("trusted(1, -2^32 + 5)", low.trusted(1, -(1L << 32) + 5), 0);
    }

    /** "-1 there is no task" */
    private static void noSuchTaskIsRefused(Check check) {
        for (int task : Edges.outside(1, 5)) {
            check.refused("trusted(" + task + ", 100)", Systems::small, x -> x.trusted(task, 100), -1);
        }
        for (int task : Edges.outside(1, 60)) {
            check.refused("trusted(" + task + ", 0), full", Systems::full, x -> x.trusted(task, 0), -1);
        }
        check.due("trusted(49, 709), of the 8th region", Systems.full().trusted(49, 709), 1);
        check.due("trusted(60, 0), full", Systems.full().trusted(60, 0), 0);
        check.refused("trusted(6, 0), down", Systems::smallDown, x -> x.trusted(6, 0), -1);
    }

    /** It is no refusal, but changes as little. */
    private static void itOnlyTells(Check check) {
        check.refused("trusted(1, 100)", Systems::small, x -> x.trusted(1, 100), 1);
        check.refused("trusted(1, 99)", Systems::small, x -> x.trusted(1, 99), 0);
        check.refused("trusted(3, MIN)", Systems::small, x -> x.trusted(3, Long.MIN_VALUE), 0);
    }

    /** "then there is nothing but what tells" */
    private static void toldInAnyState(Check check) {
        ProtectHooks x = Systems.small();
        check.due("trusted(4, 109), not alive", x.trusted(4, 109), 1);
        check.due("trusted(4, 110), not alive", x.trusted(4, 110), 0);
        ProtectHooks ended = Systems.of(0, 1, 3);
        ended.region(1, 5, 1);
        ended.fault(1, 1);
        check.due("trusted(1, 5), ended", ended.trusted(1, 5), 1);
        check.due("trusted(1, 6), ended", ended.trusted(1, 6), 0);
        ProtectHooks down = Systems.smallDown();
        check.due("trusted(1, 100), down", down.trusted(1, 100), 1);
        check.due("trusted(1, 110), down", down.trusted(1, 110), 0);
    }
}

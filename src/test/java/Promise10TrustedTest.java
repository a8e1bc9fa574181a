public final class Promise10TrustedTest {
    private static final long TOP = 1L << 40;

    public static void main(String[] args) {
        Check check = new Check();
        edgesOfRegions(check);
        onlyItsOwnApplication(check);
        highAddresses(check);
        itOnlyTells(check);
        check.end();
    }

    private static void edgesOfRegions(Check check) {
        ProtectHooks x = Systems.of(0, 1);
        check.due("trusted(1, 0), no region", x.trusted(1, 0), 0);
        x.region(1, 100, 10);
        x.region(1, 105, 20);
        x.region(1, 0, 1);
        check.due("trusted(1, 99)", x.trusted(1, 99), 0);
        check.due("trusted(1, 100)", x.trusted(1, 100), 1);
        check.due("trusted(1, 109)", x.trusted(1, 109), 1);
        check.due("trusted(1, 124)", x.trusted(1, 124), 1);
        check.due("trusted(1, 125)", x.trusted(1, 125), 0);
        check.due("trusted(1, 0)", x.trusted(1, 0), 1);
        check.due("trusted(1, 1)", x.trusted(1, 1), 0);
        check.due("trusted(1, -1)", x.trusted(1, -1), 0);
        for (int i = 4; i <= 8; i++) {
            x.region(1, 1000L * i, 1);
        }
        check.due("trusted(1, 8000), of the eighth", x.trusted(1, 8000), 1);
    }

    private static void onlyItsOwnApplication(Check check) {
        ProtectHooks x = Systems.of(0, 1);
        x.application(0);
        x.task(2, 0);
        x.region(1, 10, 5);
        x.region(2, 20, 5);
        check.due("trusted(1, 10)", x.trusted(1, 10), 1);
        check.due("trusted(2, 10)", x.trusted(2, 10), 0);
        check.due("trusted(1, 20)", x.trusted(1, 20), 0);
        check.due("trusted(2, 20)", x.trusted(2, 20), 1);
    }

    private static void highAddresses(Check check) {
        ProtectHooks x = Systems.of(0, 1);
        x.region(1, TOP, TOP);
        check.due("trusted(1, 2^40 - 1)", x.trusted(1, TOP - 1), 0);
        check.due("trusted(1, 2^40)", x.trusted(1, TOP), 1);
        check.due("trusted(1, 2^41 - 1)", x.trusted(1, 2 * TOP - 1), 1);
        check.due("trusted(1, 2^41)", x.trusted(1, 2 * TOP), 0);
        check.due("trusted(1, MAX)", x.trusted(1, Long.MAX_VALUE), 0);
        check.due("trusted(1, MIN)", x.trusted(1, Long.MIN_VALUE), 0);
        check.due("trusted(1, 0)", x.trusted(1, 0), 0);
    }

    private static void itOnlyTells(Check check) {
        ProtectHooks x = Systems.of(0, 1);
        x.region(1, 10, 5);
        check.due("trusted(0, 10)", x.trusted(0, 10), -1);
        check.due("trusted(2, 10)", x.trusted(2, 10), -1);
        check.due("trusted(MIN, 10)", x.trusted(Integer.MIN_VALUE, 10), -1);
        check.due("trusted(1, 9)", x.trusted(1, 9), 0);
        check.due("log(-1, 0)", x.log(-1, 0), 0);
        x.fault(1, 1);
        check.due("trusted(1, 14), not alive", x.trusted(1, 14), 1);
        x.task(1, 0);
        x.hook(0, 5, false);
        x.fault(2, 1);
        check.due("trusted(2, 14), down", x.trusted(2, 14), 1);
        check.due("trusted(2, 15), down", x.trusted(2, 15), 0);
        check.due("trusted(3, 14), down", x.trusted(3, 14), -1);
    }
}

public final class Promise04RegionTest {
    private static final long TOP = 1L << 40;

    public static void main(String[] args) {
        Check check = new Check();
        range(check);
        eightOfEachApplication(check);
        endedApplicationsTakeThem(check);
        whichRefusalIsFirst(check);
        check.end();
    }

    private static void range(Check check) {
        ProtectHooks x = new ProtectHooks();
        check.due("region(1, 0, 1), no application", x.region(1, 0, 1), -1);
        x.application(0);
        check.due("region(0, 0, 1)", x.region(0, 0, 1), -1);
        check.due("region(2, 0, 1)", x.region(2, 0, 1), -1);
        check.due("region(MAX, 0, 1)", x.region(Integer.MAX_VALUE, 0, 1), -1);
        check.due("region(1, -1, 1)", x.region(1, -1, 1), -2);
        check.due("region(1, 0, 0)", x.region(1, 0, 0), -2);
        check.due("region(1, 0, -1)", x.region(1, 0, -1), -2);
        check.due("region(1, 2^40 + 1, 1)", x.region(1, TOP + 1, 1), -2);
        check.due("region(1, 0, 2^40 + 1)", x.region(1, 0, TOP + 1), -2);
        check.due("region(1, MIN, MIN)", x.region(1, Long.MIN_VALUE, Long.MIN_VALUE), -2);
        check.due("region(1, 0, 1)", x.region(1, 0, 1), 1);
        check.due("region(1, 2^40, 1)", x.region(1, TOP, 1), 2);
        check.due("region(1, 0, 2^40)", x.region(1, 0, TOP), 3);
        check.due("region(1, 2^40, 2^40)", x.region(1, TOP, TOP), 4);
    }

    private static void eightOfEachApplication(Check check) {
        ProtectHooks x = new ProtectHooks();
        x.application(0);
        x.application(0);
        for (int count = 1; count <= 8; count++) {
            check.due("region(1, 7, 1)", x.region(1, 7, 1), count);
        }
        check.due("region(1, 7, 1), the 9th", x.region(1, 7, 1), -4);
        check.due("region(2, 7, 1)", x.region(2, 7, 1), 1);
        check.due("region(1, 7, 0), full", x.region(1, 7, 0), -2);
    }

    private static void endedApplicationsTakeThem(Check check) {
        ProtectHooks x = Systems.of(0, 1, 3);
        x.fault(1, 1);
        check.due("region(1, 5, 1), ended", x.region(1, 5, 1), 1);
        check.due("trusted(1, 5)", x.trusted(1, 5), 1);
    }

    private static void whichRefusalIsFirst(Check check) {
        ProtectHooks x = Systems.of(0, 1, 5);
        for (int count = 1; count <= 8; count++) {
            x.region(1, 7, 1);
        }
        x.fault(1, 1);
        check.due("region(2, -1, 0), down", x.region(2, -1, 0), -1);
        check.due("region(1, -1, 1), down", x.region(1, -1, 1), -2);
        check.due("region(1, 0, 1), down and full", x.region(1, 0, 1), -3);
    }
}

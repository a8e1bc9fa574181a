public final class Promise04RegionTest {
    private static final long TOP = 1L << 40;

    public static void main(String[] args) {
        Check check = new Check();
        bothEndsOfBothRanges(check);
        regionsMayOverlapAndRepeat(check);
        noSuchApplicationIsRefused(check);
        fromOutsideIsRefused(check);
        sizeOutsideIsRefused(check);
        eightOfEachApplication(check);
        fullIsRefused(check);
        endedApplicationsTakeThem(check);
        downIsRefused(check);
        whichRefusalIsFirst(check);
        check.end();
    }

    /** "from below 0, n below 1, or one of them above 2^40" */
    private static void bothEndsOfBothRanges(Check check) {
        ProtectHooks x = Systems.of(0, 1);
        check.due("region(1, 0, 1)", x.region(1, 0, 1), 1);
        check.due("trusted(1, 0)", x.trusted(1, 0), 1);
        check.due("trusted(1, 1)", x.trusted(1, 1), 0);
        check.due("region(1, 2^40, 1)", x.region(1, TOP, 1), 2);
        check.due("trusted(1, 2^40)", x.trusted(1, TOP), 1);
        check.due("trusted(1, 2^40 + 1)", x.trusted(1, TOP + 1), 0);
        check.due("region(1, 0, 2^40)", x.region(1, 0, TOP), 3);
        check.due("trusted(1, 2^40 - 1)", x.trusted(1, TOP - 1), 1);
        check.due("region(1, 2^40, 2^40)", x.region(1, TOP, TOP), 4);
        check.due("trusted(1, 2^41 - 1)", x.trusted(1, 2 * TOP - 1), 1);
        check.due("trusted(1, 2^41)", x.trusted(1, 2 * TOP), 0);
        check.due("region(1, 2^40 - 1, 2^40 - 1)", x.region(1, TOP - 1, TOP - 1), 5);
    }

    /** "how many it has" */
    private static void regionsMayOverlapAndRepeat(Check check) {
        ProtectHooks x = Systems.of(0, 1);
        check.due("region(1, 5, 5)", x.region(1, 5, 5), 1);
        check.due("region(1, 5, 5) again", x.region(1, 5, 5), 2);
        check.due("region(1, 7, 5)", x.region(1, 7, 5), 3);
        check.due("trusted(1, 11)", x.trusted(1, 11), 1);
    }

    /** "-1 there is none" */
    private static void noSuchApplicationIsRefused(Check check) {
        for (int application : Edges.outside(1, 3)) {
            String call = "region(" + application + ", 0, 1)";
            check.refused(call, Systems::small, x -> x.region(application, 0, 1), -1);
        }
        for (int application : Edges.outside(1, 16)) {
            String call = "region(" + application + ", 0, 1), full";
            check.refused(call, Systems::full, x -> x.region(application, 0, 1), -1);
        }
    }

    /** "-2 from below 0", "above 2^40" */
    private static void fromOutsideIsRefused(Check check) {
        for (long from : Edges.outside(0L, TOP)) {
            check.refused("region(1, " + from + ", 1)", Systems::small, x -> x.region(1, from, 1), -2);
            check.refused("region(1, " + from + ", 2^40)", Systems::small, x -> x.region(1, from, TOP), -2);
        }
    }

    /** "-2", "n below 1", "above 2^40" */
    private static void sizeOutsideIsRefused(Check check) {
        for (long n : Edges.outside(1L, TOP)) {
            check.refused("region(1, 0, " + n + ")", Systems::small, x -> x.region(1, 0, n), -2);
            check.refused("region(1, 2^40, " + n + ")", Systems::small, x -> x.region(1, TOP, n), -2);
        }
        check.refused("region(1, MIN, MIN)", Systems::small, x -> x.region(1, Long.MIN_VALUE, Long.MIN_VALUE), -2);
        check.refused("region(1, MAX, MAX)", Systems::small, x -> x.region(1, Long.MAX_VALUE, Long.MAX_VALUE), -2);
        check.refused("region(1, MAX, MIN)", Systems::small, x -> x.region(1, Long.MAX_VALUE, Long.MIN_VALUE), -2);
    }

    /** "-4 it has 8" */
    private static void eightOfEachApplication(Check check) {
        ProtectHooks x = Systems.of(0, 1);
        x.application(0);
        for (int count = 1; count <= 8; count++) {
            check.due("region(1, " + 10 * count + ", 1)", x.region(1, 10L * count, 1), count);
        }
        check.due("region(1, 90, 1), the 9th", x.region(1, 90, 1), -4);
        check.due("region(1, 90, 1), still", x.region(1, 90, 1), -4);
        check.due("trusted(1, 10), of the first", x.trusted(1, 10), 1);
        check.due("trusted(1, 80), of the eighth", x.trusted(1, 80), 1);
        check.due("trusted(1, 90), of the one refused", x.trusted(1, 90), 0);
        for (int count = 1; count <= 8; count++) {
            check.due("region(2, 7, 1)", x.region(2, 7, 1), count);
        }
        check.due("region(2, 7, 1), the 9th", x.region(2, 7, 1), -4);
    }

    /** "-4 it has 8" */
    private static void fullIsRefused(Check check) {
        check.refused("region(1, 0, 1), full", Systems::full, x -> x.region(1, 0, 1), -4);
        check.refused("region(1, 2^40, 2^40), full", Systems::full, x -> x.region(1, TOP, TOP), -4);
        check.due("region(2, 0, 1)", Systems.full().region(2, 0, 1), 1);
    }

    /** "-3" without "also": while the system is up, an application that has ended takes regions. */
    private static void endedApplicationsTakeThem(Check check) {
        ProtectHooks x = Systems.of(0, 1, 3);
        x.fault(1, 1);
        check.due("region(1, 5, 1), ended", x.region(1, 5, 1), 1);
        check.due("trusted(1, 5)", x.trusted(1, 5), 1);
    }

    /** "-3" */
    private static void downIsRefused(Check check) {
        check.refused("region(1, 0, 1), down", Systems::smallDown, x -> x.region(1, 0, 1), -3);
        check.refused("region(1, 2^40, 2^40), down", Systems::smallDown, x -> x.region(1, TOP, TOP), -3);
    }

    /** "the first that fits" */
    private static void whichRefusalIsFirst(Check check) {
        check.refused("region(4, -1, 0)", Systems::small, x -> x.region(4, -1, 0), -1);
        check.refused("region(1, 7, 0), full", Systems::full, x -> x.region(1, 7, 0), -2);
        check.refused("region(17, 7, 1), full", Systems::full, x -> x.region(17, 7, 1), -1);
        check.refused("region(4, -1, 0), down", Systems::smallDown, x -> x.region(4, -1, 0), -1);
        check.refused("region(1, -1, 1), down", Systems::smallDown, x -> x.region(1, -1, 1), -2);
        check.refused("region(1, 0, 1), down and full", Systems::fullAndDown, x -> x.region(1, 0, 1), -3);
    }
}

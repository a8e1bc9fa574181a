public final class Promise02ApplicationTest {
    public static void main(String[] args) {
        Check check = new Check();
        numberedFromOneOn(check);
        restartsFromZeroToTen(check);
        itHasAsManyRestartsAsTold(check);
        restartsOutsideAreRefused(check);
        sixteenAtMost(check);
        endedOnesTakeRoom(check);
        fullIsRefused(check);
        downIsRefused(check);
        whichRefusalIsFirst(check);
        check.end();
    }

    /** "APPLICATIONS are numbered from 1 on", "each RUNS (0)" */
    private static void numberedFromOneOn(Check check) {
        ProtectHooks x = new ProtectHooks();
        check.due("application(5)", x.application(5), 1);
        check.due("state(0)", x.state(0), -1);
        check.due("state(1)", x.state(1), 0);
        check.due("state(2)", x.state(2), -1);
        check.due("application(5)", x.application(5), 2);
        check.due("state(2)", x.state(2), 0);
        check.due("state(3)", x.state(3), -1);
    }

    /** "RESTARTS are not 0 .. 10" */
    private static void restartsFromZeroToTen(Check check) {
        ProtectHooks x = new ProtectHooks();
        for (int restarts = 0; restarts <= 10; restarts++) {
            check.due("application(" + restarts + ")", x.application(restarts), restarts + 1);
        }
    }

    /** "has so many RESTARTS left" */
    private static void itHasAsManyRestartsAsTold(Check check) {
        for (int restarts = 0; restarts <= 10; restarts++) {
            ProtectHooks x = Systems.of(restarts, 1, 4);
            for (int i = 0; i < restarts; i++) {
                check.due("fault(1, 1), one of " + restarts, x.fault(1, 1), 4);
            }
            check.due("fault(1, 1), none left of " + restarts, x.fault(1, 1), 3);
            check.due("state(1)", x.state(1), 1);
        }
    }

    /** "-2 RESTARTS are not 0 .. 10" */
    private static void restartsOutsideAreRefused(Check check) {
        for (int restarts : Edges.outside(0, 10)) {
            String call = "application(" + restarts + ")";
            check.refused(call, ProtectHooks::new, x -> x.application(restarts), -2);
            check.refused(call, Systems::small, x -> x.application(restarts), -2);
        }
    }

    /** "at most 16", "-4 there are 16" */
    private static void sixteenAtMost(Check check) {
        ProtectHooks x = new ProtectHooks();
        for (int number = 1; number <= 16; number++) {
            check.due("application(1)", x.application(1), number);
        }
        check.due("application(1), the 17th", x.application(1), -4);
        check.due("application(1), still", x.application(1), -4);
        check.due("state(16)", x.state(16), 0);
        check.due("state(17)", x.state(17), -1);
        check.due("task(16, 0)", x.task(16, 0), 1);
        check.due("task(17, 0)", x.task(17, 0), -1);
    }

    /** "-4 there are 16": one that has ended is there too */
    private static void endedOnesTakeRoom(Check check) {
        ProtectHooks x = Systems.of(0, 1, 3);
        x.fault(1, 1);
        for (int number = 2; number <= 16; number++) {
            check.due("application(1)", x.application(1), number);
        }
        check.due("application(1), one has ended", x.application(1), -4);
    }

    /** "-4 there are 16" */
    private static void fullIsRefused(Check check) {
        check.refused("application(0), full", Systems::full, x -> x.application(0), -4);
        check.refused("application(10), full", Systems::fullAndEnded, x -> x.application(10), -4);
    }

    /** "-3" */
    private static void downIsRefused(Check check) {
        check.refused("application(0), down", Systems::smallDown, x -> x.application(0), -3);
        check.refused("application(10), down", Systems::smallDown, x -> x.application(10), -3);
    }

    /** "the first that fits" */
    private static void whichRefusalIsFirst(Check check) {
        check.refused("application(11), full", Systems::full, x -> x.application(11), -2);
        check.refused("application(-1), down", Systems::smallDown, x -> x.application(-1), -2);
        check.refused("application(11), full and down", Systems::fullAndDown, x -> x.application(11), -2);
        check.refused("application(0), full and down", Systems::fullAndDown, x -> x.application(0), -3);
    }
}

public final class Promise03TaskTest {
    public static void main(String[] args) {
        Check check = new Check();
        numberedFromOneOn(check);
        spacingFromZeroToAMillion(check);
        newTasksAreAlive(check);
        noSuchApplicationIsRefused(check);
        spacingOutsideIsRefused(check);
        endedApplicationsTakeNone(check);
        startedAgainTakesMore(check);
        sixtyAtMost(check);
        sixtyOfAllApplicationsTogether(check);
        deadOnesTakeRoom(check);
        fullIsRefused(check);
        downIsRefused(check);
        whichRefusalIsFirst(check);
        check.end();
    }

    /** "TASKS are numbered from 1 on", "each of an application" */
    private static void numberedFromOneOn(Check check) {
        ProtectHooks x = new ProtectHooks();
        x.application(0);
        x.application(0);
        check.due("trusted(1, 0)", x.trusted(1, 0), -1);
        check.due("task(2, 3)", x.task(2, 3), 1);
        check.due("trusted(0, 0)", x.trusted(0, 0), -1);
        check.due("trusted(1, 0)", x.trusted(1, 0), 0);
        check.due("trusted(2, 0)", x.trusted(2, 0), -1);
        check.due("task(1, 3)", x.task(1, 3), 2);
        check.due("task(2, 3)", x.task(2, 3), 3);
    }

    /** "the SPACING is not 0 .. 1000000" */
    private static void spacingFromZeroToAMillion(Check check) {
        long[] spacings = {0, 1, 2, 999999, 1000000};
        ProtectHooks x = new ProtectHooks();
        x.application(0);
        for (int i = 0; i < spacings.length; i++) {
            int task = i + 1;
            long spacing = spacings[i];
            check.due("task(1, " + spacing + ")", x.task(1, spacing), task);
            x.arrival(task, 0);
            if (spacing > 0) {
                check.due("arrival at " + (spacing - 1), x.arrival(task, spacing - 1), 0);
            }
            check.due("arrival at " + spacing, x.arrival(task, spacing), 1);
        }
    }

    /** "a task is ALIVE (at first)" */
    private static void newTasksAreAlive(Check check) {
        ProtectHooks x = Systems.of(0, 1);
        x.fault(1, 1);
        check.due("task(1, 0)", x.task(1, 0), 2);
        check.due("holds(1, 0, 1)", x.holds(1, 0, 1), -3);
        check.due("holds(2, 0, 1)", x.holds(2, 0, 1), 1);
        check.due("access(2, 0)", x.access(2, 0), -2);
    }

    /** "-1 there is no application" */
    private static void noSuchApplicationIsRefused(Check check) {
        for (int application : Edges.outside(1, 3)) {
            check.refused("task(" + application + ", 0)", Systems::small, x -> x.task(application, 0), -1);
        }
        for (int application : Edges.outside(1, 16)) {
            check.refused("task(" + application + ", 0), full", Systems::full, x -> x.task(application, 0), -1);
        }
    }

    /** "-2 the SPACING is not 0 .. 1000000" */
    private static void spacingOutsideIsRefused(Check check) {
        for (long spacing : Edges.outside(0L, 1000000L)) {
            check.refused("task(1, " + spacing + ")", Systems::small, x -> x.task(1, spacing), -2);
        }
    }

    /** "-3, also when the application has ENDED" */
    private static void endedApplicationsTakeNone(Check check) {
        check.refused("task(3, 0), ended", Systems::ended, x -> x.task(3, 0), -3);
        check.refused("task(3, 1000000), ended", Systems::ended, x -> x.task(3, 1000000), -3);
        ProtectHooks x = Systems.ended();
        check.due("task(2, 0), it runs", x.task(2, 0), 6);
        ProtectHooks none = Systems.of(0, 1, 4);
        none.fault(1, 1);
        check.due("task(1, 0), no restarts left", none.task(1, 0), -3);
    }

    /** "-3, also when the application has ENDED": one that was started again has not */
    private static void startedAgainTakesMore(Check check) {
        ProtectHooks x = Systems.of(1, 1, 4);
        x.fault(1, 1);
        check.due("task(1, 0), started again", x.task(1, 0), 2);
        ProtectHooks taskless = Systems.of(0, 1, 2);
        taskless.fault(1, 1);
        check.due("task(1, 0), no task is alive", taskless.task(1, 0), 2);
    }

    /** "at most 60", "-4 there are 60" */
    private static void sixtyAtMost(Check check) {
        ProtectHooks x = Systems.of(0, 0);
        for (int number = 1; number <= 60; number++) {
            check.due("task(1, 0)", x.task(1, 0), number);
        }
        check.due("task(1, 0), the 61st", x.task(1, 0), -4);
        check.due("task(1, 0), still", x.task(1, 0), -4);
        check.due("trusted(60, 0)", x.trusted(60, 0), 0);
        check.due("trusted(61, 0)", x.trusted(61, 0), -1);
        check.due("fault(61, 1)", x.fault(61, 1), -1);
        check.due("fault(60, 1)", x.fault(60, 1), 2);
    }

    /** "at most 60" */
    private static void sixtyOfAllApplicationsTogether(Check check) {
        ProtectHooks x = Systems.of(0, 59);
        x.application(0);
        x.application(0);
        check.due("task(2, 0), the 60th", x.task(2, 0), 60);
        check.due("task(2, 0), the 61st", x.task(2, 0), -4);
        check.due("task(3, 0), the first of its application", x.task(3, 0), -4);
    }

    /** "-4 there are 60": one that is not alive is there too */
    private static void deadOnesTakeRoom(Check check) {
        ProtectHooks x = Systems.of(0, 60);
        check.due("fault(7, 1)", x.fault(7, 1), 2);
        check.due("task(1, 0), one is not alive", x.task(1, 0), -4);
    }

    /** "-4 there are 60" */
    private static void fullIsRefused(Check check) {
        check.refused("task(1, 0), full", Systems::full, x -> x.task(1, 0), -4);
        check.refused("task(16, 1000000), full", Systems::full, x -> x.task(16, 1000000), -4);
    }

    /** "-3" */
    private static void downIsRefused(Check check) {
        check.refused("task(1, 0), down", Systems::smallDown, x -> x.task(1, 0), -3);
        check.refused("task(3, 1000000), down", Systems::smallDown, x -> x.task(3, 1000000), -3);
    }

    /** "the first that fits" */
    private static void whichRefusalIsFirst(Check check) {
        check.refused("task(4, -1)", Systems::small, x -> x.task(4, -1), -1);
        check.refused("task(17, -1), full", Systems::full, x -> x.task(17, -1), -1);
        check.refused("task(1, -1), full", Systems::full, x -> x.task(1, -1), -2);
        check.refused("task(3, 1000001), ended", Systems::ended, x -> x.task(3, 1000001), -2);
        check.refused("task(16, 0), full and ended", Systems::fullAndEnded, x -> x.task(16, 0), -3);
        check.refused("task(15, 0), full, another has ended", Systems::fullAndEnded, x -> x.task(15, 0), -4);
        check.refused("task(4, -1), down", Systems::smallDown, x -> x.task(4, -1), -1);
        check.refused("task(1, -1), down", Systems::smallDown, x -> x.task(1, -1), -2);
        check.refused("task(1, 0), full and down", Systems::fullAndDown, x -> x.task(1, 0), -3);
    }
}

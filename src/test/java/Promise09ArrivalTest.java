public final class Promise09ArrivalTest {
    private static final long LEAST = Long.MIN_VALUE;
    private static final long MOST = Long.MAX_VALUE;

    public static void main(String[] args) {
        Check check = new Check();
        theFirstIsNeverEarly(check);
        lessThanItsSpacing(check);
        noSpacing(check);
        sinceItCameLast(check);
        delayedOnce(check);
        reactionsOfTheFault(check);
        delayedAgainBehindAnIgnoredFault(check);
        largeTimes(check);
        startedAgainKeepsItsTimes(check);
        noSuchTaskIsRefused(check);
        timeBelowZeroIsRefused(check);
        timeBeforeAnArrivalIsRefused(check);
        notAliveIsRefused(check);
        downIsRefused(check);
        whichRefusalIsFirst(check);
        check.end();
    }

    private static ProtectHooks spaced(long spacing, int does) {
        ProtectHooks x = new ProtectHooks();
        x.application(5);
        x.task(1, spacing);
        x.task(1, spacing);
        x.hook(0, does, false);
        return x;
    }

    /** "the time at which it came last": at first there is none */
    private static void theFirstIsNeverEarly(Check check) {
        long[] times = {0, 1, 999999, 1000000, 1L << 40, MOST - 1, MOST};
        for (long t : times) {
            check.due("arrival(1, " + t + "), the first", spaced(1000000, 2).arrival(1, t), 1);
        }
        ProtectHooks x = spaced(1000000, 2);
        check.due("arrival(1, 0)", x.arrival(1, 0), 1);
        check.due("arrival(2, 0), of another task", x.arrival(2, 0), 1);
    }

    /** "less than its SPACING after the time at which it came last" */
    private static void lessThanItsSpacing(Check check) {
        long[] spacings = {1, 2, 10, 999999, 1000000};
        long[] starts = {0, 1, 1L << 32, 1L << 40, MOST - 1000000};
        for (long spacing : spacings) {
            for (long start : starts) {
                String where = "spacing " + spacing + " from " + start + ": ";
                ProtectHooks x = spaced(spacing, 2);
                x.arrival(1, start);
                check.due(where + "one too early", x.arrival(1, start + spacing - 1), 0);
                check.due(where + "not too early", x.arrival(1, start + spacing), 1);
                x.arrival(2, start);
                check.due(where + "not too early at once", x.arrival(2, start + spacing), 1);
            }
        }
    }

    /** "the SPACING is not 0 .. 1000000": with 0 nothing is too early */
    private static void noSpacing(Check check) {
        ProtectHooks x = spaced(0, 1);
        long[] times = {0, 0, 0, 7, 7, 7, MOST, MOST, MOST};
        for (long t : times) {
            check.due("arrival(1, " + t + "), no spacing", x.arrival(1, t), 1);
        }
        check.due("log(-1, 0)", x.log(-1, 0), 0);
    }

    /** "One that is not too early CAME then": a delayed one did not */
    private static void sinceItCameLast(Check check) {
        ProtectHooks x = spaced(10, 2);
        check.due("arrival(1, 0)", x.arrival(1, 0), 1);
        check.due("arrival(1, 10)", x.arrival(1, 10), 1);
        check.due("arrival(1, 19)", x.arrival(1, 19), 0);
        check.due("arrival(1, 20), a delay is no coming", x.arrival(1, 20), 1);
        check.due("arrival(1, 29), since the last coming", x.arrival(1, 29), 0);
        check.due("arrival(1, 30)", x.arrival(1, 30), 1);
        check.due("log(-1, 0)", x.log(-1, 0), 0);
    }

    /** "it is DELAYED, once; if it was DELAYED at the arrival before, that is a FAULT of kind 4" */
    private static void delayedOnce(Check check) {
        ProtectHooks x = spaced(10, 0);
        check.due("arrival(2, 5)", x.arrival(2, 5), 1);
        check.due("arrival(1, 5), of another task", x.arrival(1, 5), 1);
        check.due("arrival(2, 5)", x.arrival(2, 5), 0);
        check.due("arrival(1, 5), not delayed with the other", x.arrival(1, 5), 0);
        check.due("arrival(2, 14), the last that is too early", x.arrival(2, 14), -2);
        check.dueLine(x, 0, 2, 4, 3, 2);
        check.due("arrival(2, 15), not alive", x.arrival(2, 15), -3000);
        check.due("arrival(1, 15), not too early", x.arrival(1, 15), 1);
        check.due("arrival(1, 16), delayed for the first time since", x.arrival(1, 16), 0);
    }

    /** "minus the REACTION of the FAULT" */
    private static void reactionsOfTheFault(Check check) {
        for (int does = 1; does <= 5; does++) {
            ProtectHooks x = spaced(10, does);
            x.arrival(1, 5);
            check.due("arrival(1, 6)", x.arrival(1, 6), 0);
            check.due("arrival(1, 14)", x.arrival(1, 14), -does);
            check.dueLine(x, 0, 1, 4, 0, does);
        }
        ProtectHooks none = new ProtectHooks();
        none.application(0);
        none.task(1, 10);
        none.hook(0, 4, false);
        none.arrival(1, 0);
        none.arrival(1, 0);
        check.due("arrival(1, 0), no restarts left", none.arrival(1, 0), -3);
        ProtectHooks failing = spaced(10, 0);
        failing.hook(2, 1, true);
        failing.arrival(1, 0);
        failing.arrival(1, 0);
        check.due("arrival(1, 0), a hook fails", failing.arrival(1, 0), -5);
        check.due("state(1)", failing.state(1), 2);
    }

    /** "if it was DELAYED at the arrival before": at a fault it was not */
    private static void delayedAgainBehindAnIgnoredFault(Check check) {
        ProtectHooks x = spaced(10, 1);
        check.due("arrival(1, 0)", x.arrival(1, 0), 1);
        check.due("arrival(1, 1)", x.arrival(1, 1), 0);
        check.due("arrival(1, 2)", x.arrival(1, 2), -1);
        check.due("arrival(1, 3), the one before was a fault", x.arrival(1, 3), 0);
        check.due("arrival(1, 4)", x.arrival(1, 4), -1);
        check.due("arrival(1, 10), a fault is no coming", x.arrival(1, 10), 1);
    }

    private static void largeTimes(Check check) {
        ProtectHooks x = spaced(1000000, 1);
        check.due("arrival(1, 0)", x.arrival(1, 0), 1);
        check.due("arrival(1, 2^32 + 1)", x.arrival(1, (1L << 32) + 1), 1);
        check.due("arrival(1, MAX)", x.arrival(1, MOST), 1);
        check.due("arrival(1, MAX) again", x.arrival(1, MOST), 0);
        check.due("arrival(1, MAX) once more", x.arrival(1, MOST), -1);
        check.due("arrival(1, MAX - 1)", x.arrival(1, MOST - 1), -2000);
    }

    /** "all its tasks are ALIVE": nothing else of them is told to change */
    private static void startedAgainKeepsItsTimes(Check check) {
        ProtectHooks x = spaced(10, 4);
        x.arrival(1, 100);
        x.arrival(2, 100);
        x.arrival(2, 101);
        check.due("fault(1, 1)", x.fault(1, 1), 4);
        check.due("arrival(1, 99)", x.arrival(1, 99), -2000);
        check.due("arrival(1, 109)", x.arrival(1, 109), 0);
        check.due("arrival(2, 109), delayed before", x.arrival(2, 109), -4);
    }

    /** "-1000 there is no task" */
    private static void noSuchTaskIsRefused(Check check) {
        for (int task : Edges.outside(1, 5)) {
            check.refused("arrival(" + task + ", 200)", Systems::small, x -> x.arrival(task, 200), -1000);
        }
        for (int task : Edges.outside(1, 60)) {
            check.refused("arrival(" + task + ", 0), full", Systems::full, x -> x.arrival(task, 0), -1000);
        }
        check.due("arrival(60, 0), full", Systems.full().arrival(60, 0), 1);
    }

    /** "-2000 the time is", "below 0" */
    private static void timeBelowZeroIsRefused(Check check) {
        long[] times = {-1, -2, -(1L << 32), LEAST + 1, LEAST};
        for (long t : times) {
            check.refused("arrival(5, " + t + "), the first", Systems::small, x -> x.arrival(5, t), -2000);
            check.refused("arrival(1, " + t + ")", Systems::small, x -> x.arrival(1, t), -2000);
        }
        check.due("arrival(5, 0)", Systems.small().arrival(5, 0), 1);
    }

    /** "-2000 the time is less than that of one of its arrivals before" */
    private static void timeBeforeAnArrivalIsRefused(Check check) {
        check.refused("arrival(2, 49), it came at 50", Systems::small, x -> x.arrival(2, 49), -2000);
        check.refused("arrival(2, 0), it came at 50", Systems::small, x -> x.arrival(2, 0), -2000);
        check.due("arrival(2, 50), the same time", Systems.small().arrival(2, 50), 0);
        check.refused("arrival(1, 104), delayed at 105", Systems::small, x -> x.arrival(1, 104), -2000);
        check.due("arrival(1, 105), the same time", Systems.small().arrival(1, 105), -1);
        check.refused("arrival(1, 107), a fault at 108", Promise09ArrivalTest::faultAt108, x -> x.arrival(1, 107), -2000);
        check.due("arrival(1, 108), the same time", faultAt108().arrival(1, 108), 0);
        check.due("arrival(3, 3), another's time", Systems.small().arrival(3, 3), 0);
    }

    private static ProtectHooks faultAt108() {
        ProtectHooks x = Systems.small();
        x.arrival(1, 108);
        return x;
    }

    /** "-3000 the task is not ALIVE" */
    private static void notAliveIsRefused(Check check) {
        long[] times = {90, 105, MOST};
        for (long t : times) {
            check.refused("arrival(4, " + t + "), not alive", Systems::small, x -> x.arrival(4, t), -3000);
            check.refused("arrival(5, " + t + "), ended", Systems::ended, x -> x.arrival(5, t), -3000);
        }
        ProtectHooks x = Systems.ended();
        x.arrival(5, MOST);
        check.due("arrival(5, 0), what was refused is no arrival", x.arrival(5, 0), -3000);
        ProtectHooks again = refusedBeforeItsStart();
        check.due("arrival(4, 90), started again", again.arrival(4, 90), 0);
    }

    private static ProtectHooks refusedBeforeItsStart() {
        ProtectHooks x = Systems.small();
        x.arrival(4, MOST);
        x.hook(0, 4, false);
        x.fault(2, 1);
        return x;
    }

    /** "or the system is DOWN" */
    private static void downIsRefused(Check check) {
        check.refused("arrival(1, 105), down", Systems::smallDown, x -> x.arrival(1, 105), -3000);
        check.refused("arrival(5, 0), down", Systems::smallDown, x -> x.arrival(5, 0), -3000);
        check.refused("arrival(5, MAX), down", Systems::smallDown, x -> x.arrival(5, MOST), -3000);
    }

    /** "the first that fits" */
    private static void whichRefusalIsFirst(Check check) {
        check.refused("arrival(6, -1)", Systems::small, x -> x.arrival(6, -1), -1000);
        check.refused("arrival(4, -1), not alive", Systems::small, x -> x.arrival(4, -1), -2000);
        check.refused("arrival(6, -1), down", Systems::smallDown, x -> x.arrival(6, -1), -1000);
        check.refused("arrival(1, -1), down", Systems::smallDown, x -> x.arrival(1, -1), -2000);
        check.refused("arrival(1, 104), down", Systems::smallDown, x -> x.arrival(1, 104), -2000);
    }
}

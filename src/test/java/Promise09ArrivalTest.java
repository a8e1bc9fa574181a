public final class Promise09ArrivalTest {
    public static void main(String[] args) {
        Check check = new Check();
        cameOrDelayed(check);
        faultAfterADelay(check);
        delayedAgainBehindAnIgnoredFault(check);
        timesDoNotGoBack(check);
        noSpacing(check);
        largeTimes(check);
        startedAgainKeepsItsTimes(check);
        refusals(check);
        check.end();
    }

    private static ProtectHooks spaced(long spacing, int does) {
        ProtectHooks x = new ProtectHooks();
        x.application(5);
        x.task(1, spacing);
        x.task(1, spacing);
        x.hook(0, does, false);
        return x;
    }

    private static void cameOrDelayed(Check check) {
        ProtectHooks x = spaced(10, 2);
        check.due("arrival(1, 0), the first", x.arrival(1, 0), 1);
        check.due("arrival(1, 10)", x.arrival(1, 10), 1);
        check.due("arrival(1, 19)", x.arrival(1, 19), 0);
        check.due("arrival(2, 19)", x.arrival(2, 19), 1);
        check.due("arrival(1, 20), a delay is no coming", x.arrival(1, 20), 1);
        check.due("arrival(1, 29), delayed is over", x.arrival(1, 29), 0);
        check.due("arrival(1, 30)", x.arrival(1, 30), 1);
        check.due("log(-1, 0)", x.log(-1, 0), 0);
    }

    private static void faultAfterADelay(Check check) {
        for (int does = 1; does <= 5; does++) {
            ProtectHooks x = spaced(10, does);
            x.arrival(1, 5);
            check.due("arrival(1, 6)", x.arrival(1, 6), 0);
            check.due("arrival(1, 14)", x.arrival(1, 14), -does);
            check.dueLine(x, 0, 1, 4, 0, does);
        }
        ProtectHooks x = spaced(10, 0);
        x.arrival(2, 5);
        x.arrival(2, 5);
        check.due("arrival(2, 5)", x.arrival(2, 5), -2);
        check.dueLine(x, 0, 2, 4, 3, 2);
        check.due("arrival(2, 15), not alive", x.arrival(2, 15), -3000);
    }

    private static void delayedAgainBehindAnIgnoredFault(Check check) {
        ProtectHooks x = spaced(10, 1);
        check.due("arrival(1, 0)", x.arrival(1, 0), 1);
        check.due("arrival(1, 1)", x.arrival(1, 1), 0);
        check.due("arrival(1, 2)", x.arrival(1, 2), -1);
        check.due("arrival(1, 3), the one before was a fault", x.arrival(1, 3), 0);
        check.due("arrival(1, 4)", x.arrival(1, 4), -1);
        check.due("arrival(1, 3), before a fault's time", x.arrival(1, 3), -2000);
        check.due("arrival(1, 10), a fault is no coming", x.arrival(1, 10), 1);
    }

    private static void timesDoNotGoBack(Check check) {
        ProtectHooks x = spaced(10, 1);
        check.due("arrival(1, -1)", x.arrival(1, -1), -2000);
        check.due("arrival(1, MIN)", x.arrival(1, Long.MIN_VALUE), -2000);
        check.due("arrival(1, 100)", x.arrival(1, 100), 1);
        check.due("arrival(1, 99)", x.arrival(1, 99), -2000);
        check.due("arrival(1, 105)", x.arrival(1, 105), 0);
        check.due("arrival(1, 104), before a delay's time", x.arrival(1, 104), -2000);
        check.due("arrival(2, 3), of another task", x.arrival(2, 3), 1);
        check.due("arrival(1, 110), refusals change nothing", x.arrival(1, 110), 1);
    }

    private static void noSpacing(Check check) {
        ProtectHooks x = spaced(0, 1);
        check.due("arrival(1, 7)", x.arrival(1, 7), 1);
        check.due("arrival(1, 7)", x.arrival(1, 7), 1);
        check.due("arrival(1, 7)", x.arrival(1, 7), 1);
    }

    private static void largeTimes(Check check) {
        ProtectHooks x = spaced(1000000, 1);
        check.due("arrival(1, 0)", x.arrival(1, 0), 1);
        check.due("arrival(1, 999999)", x.arrival(1, 999999), 0);
        check.due("arrival(1, 2^32 + 1)", x.arrival(1, (1L << 32) + 1), 1);
        check.due("arrival(1, MAX)", x.arrival(1, Long.MAX_VALUE), 1);
        check.due("arrival(1, MAX) again", x.arrival(1, Long.MAX_VALUE), 0);
    }

    private static void startedAgainKeepsItsTimes(Check check) {
        ProtectHooks x = spaced(10, 4);
        x.arrival(1, 100);
        x.arrival(2, 100);
        x.arrival(2, 101);
        check.due("fault(1, 1)", x.fault(1, 1), 4);
        check.due("arrival(1, 99)", x.arrival(1, 99), -2000);
        check.due("arrival(1, 109)", x.arrival(1, 109), 0);
        check.due("arrival(2, 109), delayed before", x.arrival(2, 109), -4);
    }

    private static void refusals(Check check) {
        ProtectHooks x = spaced(10, 2);
        x.arrival(1, 50);
        check.due("arrival(0, 0)", x.arrival(0, 0), -1000);
        check.due("arrival(3, -1)", x.arrival(3, -1), -1000);
        check.due("arrival(MAX, 0)", x.arrival(Integer.MAX_VALUE, 0), -1000);
        x.fault(1, 1);
        check.due("arrival(1, 49), not alive", x.arrival(1, 49), -2000);
        check.due("arrival(1, 50), not alive", x.arrival(1, 50), -3000);
        ProtectHooks down = Systems.down();
        check.due("arrival(2, -1), down", down.arrival(2, -1), -1000);
        check.due("arrival(1, -1), down", down.arrival(1, -1), -2000);
        check.due("arrival(1, 0), down", down.arrival(1, 0), -3000);
    }
}

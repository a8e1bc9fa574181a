public final class Promise03TaskTest {
    public static void main(String[] args) {
        Check check = new Check();
        numbersAndRange(check);
        sixtyAtMost(check);
        whichRefusalIsFirst(check);
        endedApplicationsTakeNone(check);
        newTasksAreAlive(check);
        check.end();
    }

    private static void numbersAndRange(Check check) {
        ProtectHooks x = new ProtectHooks();
        check.due("task(1, 0), no application", x.task(1, 0), -1);
        x.application(0);
        x.application(0);
        check.due("task(0, 0)", x.task(0, 0), -1);
        check.due("task(-1, 0)", x.task(-1, 0), -1);
        check.due("task(3, 0)", x.task(3, 0), -1);
        check.due("task(17, 0)", x.task(17, 0), -1);
        check.due("task(MIN, 0)", x.task(Integer.MIN_VALUE, 0), -1);
        check.due("task(1, -1)", x.task(1, -1), -2);
        check.due("task(1, 1000001)", x.task(1, 1000001), -2);
        check.due("task(1, 2^32)", x.task(1, 1L << 32), -2);
        check.due("task(1, 0)", x.task(1, 0), 1);
        check.due("task(2, 1000000)", x.task(2, 1000000), 2);
        check.due("task(1, 5)", x.task(1, 5), 3);
    }

    private static void sixtyAtMost(Check check) {
        ProtectHooks x = new ProtectHooks();
        x.application(0);
        for (int number = 1; number <= 60; number++) {
            check.due("task(1, 0)", x.task(1, 0), number);
        }
        check.due("task(1, 0), the 61st", x.task(1, 0), -4);
        check.due("trusted(60, 0)", x.trusted(60, 0), 0);
        check.due("trusted(61, 0)", x.trusted(61, 0), -1);
    }

    private static void whichRefusalIsFirst(Check check) {
        ProtectHooks x = Systems.of(0, 60, 3);
        check.due("task(2, -1), full", x.task(2, -1), -1);
        check.due("task(1, -1), full", x.task(1, -1), -2);
        x.fault(1, 1);
        check.due("task(1, 0), full and ended", x.task(1, 0), -3);
        check.due("task(1, -1), full and ended", x.task(1, -1), -2);
        ProtectHooks down = Systems.down();
        check.due("task(2, -1), down", down.task(2, -1), -1);
        check.due("task(1, -1), down", down.task(1, -1), -2);
        check.due("task(1, 0), down", down.task(1, 0), -3);
    }

    private static void endedApplicationsTakeNone(Check check) {
        ProtectHooks x = Systems.of(0, 1, 3);
        x.application(0);
        x.fault(1, 1);
        check.due("task(1, 0), ended", x.task(1, 0), -3);
        check.due("task(2, 0), it runs", x.task(2, 0), 2);
    }

    private static void newTasksAreAlive(Check check) {
        ProtectHooks x = Systems.of(0, 1);
        x.fault(1, 1);
        check.due("task(1, 0)", x.task(1, 0), 2);
        check.due("holds(1, 0, 1)", x.holds(1, 0, 1), -3);
        check.due("holds(2, 0, 1)", x.holds(2, 0, 1), 1);
    }
}

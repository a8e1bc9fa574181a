public final class Promise06FaultTest {
    public static void main(String[] args) {
        Check check = new Check();
        refusals(check);
        levelsInOrder(check);
        failingHooks(check);
        ignored(check);
        endsTheTask(check);
        endsTheApplication(check);
        startsAgain(check);
        noRestartsLeft(check);
        shutsDown(check);
        failingThings(check);
        failingThingsOfOneFaultOnly(check);
        check.end();
    }

    private static void refusals(Check check) {
        ProtectHooks x = Systems.of(0, 1);
        check.due("fault(0, 1)", x.fault(0, 1), -1);
        check.due("fault(2, 0)", x.fault(2, 0), -1);
        check.due("fault(61, 1)", x.fault(61, 1), -1);
        check.due("fault(1, 0)", x.fault(1, 0), -2);
        check.due("fault(1, 6)", x.fault(1, 6), -2);
        check.due("fault(1, MIN)", x.fault(1, Integer.MIN_VALUE), -2);
        check.due("fault(1, 5)", x.fault(1, 5), 2);
        check.due("fault(1, 1), not alive", x.fault(1, 1), -3);
        check.due("fault(1, 0), not alive", x.fault(1, 0), -2);
        check.due("log(-1, 0)", x.log(-1, 0), 1);
        ProtectHooks down = Systems.down();
        check.due("fault(2, 0), down", down.fault(2, 0), -1);
        check.due("fault(1, 6), down", down.fault(1, 6), -2);
        check.due("fault(1, 1), down", down.fault(1, 1), -3);
    }

    private static void levelsInOrder(Check check) {
        for (int decides = 0; decides < 3; decides++) {
            ProtectHooks x = Systems.of(0, 1);
            x.hook(decides, 1, false);
            for (int behind = decides + 1; behind < 3; behind++) {
                x.hook(behind, 5, true);
            }
            check.due("fault(1, 3)", x.fault(1, 3), 1);
            check.dueLine(x, 0, 1, 3, decides, 1);
        }
    }

    private static void failingHooks(Check check) {
        for (int level = 0; level < 3; level++) {
            for (int does = 0; does <= 5; does++) {
                ProtectHooks x = Systems.of(10, 1);
                x.hook(level, does, true);
                check.due("fault(1, 2), a hook fails", x.fault(1, 2), 5);
                check.due("state(1)", x.state(1), 2);
                check.dueLine(x, 0, 1, 2, level, 5);
            }
        }
    }

    private static void ignored(Check check) {
        ProtectHooks x = Systems.of(0, 1, 1);
        x.holds(1, 0, 1);
        check.due("fault(1, 1)", x.fault(1, 1), 1);
        check.due("fault(1, 1)", x.fault(1, 1), 1);
        check.due("cleaned(-1, 0)", x.cleaned(-1, 0), 0);
        check.due("holds(1, 0, 2)", x.holds(1, 0, 2), 2);
        check.due("state(1)", x.state(1), 0);
    }

    private static void endsTheTask(Check check) {
        ProtectHooks x = Systems.of(5, 2, 2);
        check.due("fault(1, 1)", x.fault(1, 1), 2);
        check.dueLine(x, 0, 1, 1, 0, 2);
        check.due("holds(1, 0, 1)", x.holds(1, 0, 1), -3);
        check.due("holds(2, 0, 1)", x.holds(2, 0, 1), 1);
        check.due("state(1)", x.state(1), 0);
        check.due("fault(2, 1)", x.fault(2, 1), 2);
        check.due("state(1), no task is alive", x.state(1), 0);
        check.due("task(1, 0)", x.task(1, 0), 3);
    }

    private static void endsTheApplication(Check check) {
        ProtectHooks x = Systems.of(5, 2, 3);
        x.application(0);
        x.task(2, 0);
        x.holds(2, 0, 1);
        x.holds(3, 0, 2);
        check.due("fault(1, 1)", x.fault(1, 1), 3);
        check.due("state(1)", x.state(1), 1);
        check.due("state(2)", x.state(2), 0);
        check.due("fault(2, 1)", x.fault(2, 1), -3);
        check.due("cleaned(-1, 0)", x.cleaned(-1, 0), 1);
        check.due("holds(3, 0, 1)", x.holds(3, 0, 1), 2);
    }

    private static void startsAgain(Check check) {
        ProtectHooks x = Systems.of(1, 3);
        x.application(0);
        x.task(2, 0);
        x.holds(2, 0, 4);
        x.holds(4, 0, 5);
        x.fault(1, 1);
        x.fault(4, 1);
        x.hook(1, 4, false);
        check.due("fault(3, 1)", x.fault(3, 1), 4);
        check.dueLine(x, 2, 3, 1, 1, 4);
        check.due("state(1)", x.state(1), 0);
        check.due("holds(1, 1, 1), ended before", x.holds(1, 1, 1), 1);
        check.due("holds(2, 0, 4), cleaned", x.holds(2, 0, 4), 1);
        check.due("holds(3, 1, 2)", x.holds(3, 1, 2), 1);
        check.due("holds(4, 1, 3), of another application", x.holds(4, 1, 3), -3);
    }

    private static void noRestartsLeft(Check check) {
        ProtectHooks x = Systems.of(2, 2, 4);
        check.due("fault(1, 1)", x.fault(1, 1), 4);
        check.due("fault(2, 1)", x.fault(2, 1), 4);
        x.holds(2, 1, 1);
        check.due("fault(1, 1), none left", x.fault(1, 1), 3);
        check.dueLine(x, 2, 1, 1, 0, 3);
        check.due("state(1)", x.state(1), 1);
        check.dueCleaned(x, 0, 2, 1, 1);
        check.due("fault(2, 1)", x.fault(2, 1), -3);
    }

    private static void shutsDown(Check check) {
        ProtectHooks x = Systems.of(5, 2, 5);
        x.application(0);
        x.task(2, 0);
        x.holds(1, 0, 1);
        check.due("fault(1, 1)", x.fault(1, 1), 5);
        check.dueLine(x, 0, 1, 1, 0, 5);
        check.due("state(1)", x.state(1), 2);
        check.due("state(2)", x.state(2), 2);
        check.due("cleaned(-1, 0), things stay", x.cleaned(-1, 0), 0);
        check.due("fault(3, 1)", x.fault(3, 1), -3);
    }

    private static void failingThings(Check check) {
        int[] hooks = {2, 3, 4};
        for (int does : hooks) {
            ProtectHooks x = Systems.of(5, 2, does);
            x.holds(1, 3, 1);
            x.holds(1, 3, 32);
            x.holds(1, 3, 2);
            x.holds(2, 0, 1);
            check.due("fault(1, 1), a thing fails", x.fault(1, 1), 5);
            check.dueLine(x, 0, 1, 1, 0, 5);
            check.due("cleaned(-1, 0)", x.cleaned(-1, 0), 2);
            check.dueCleaned(x, 0, 1, 3, 1);
            check.dueCleaned(x, 1, 1, 3, 2);
            check.due("state(1)", x.state(1), 2);
            check.due("fault(2, 1)", x.fault(2, 1), -3);
        }
    }

    private static void failingThingsOfOneFaultOnly(Check check) {
        ProtectHooks x = Systems.of(5, 3, 2);
        x.holds(1, 3, 1);
        x.holds(2, 3, 2);
        check.due("fault(1, 1)", x.fault(1, 1), 2);
        check.due("fault(2, 1)", x.fault(2, 1), 2);
        check.due("state(1)", x.state(1), 0);
        check.due("cleaned(-1, 0)", x.cleaned(-1, 0), 2);
        check.due("holds(3, 3, 1)", x.holds(3, 3, 1), 1);
    }
}

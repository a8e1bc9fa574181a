public final class Promise06FaultTest {
    public static void main(String[] args) {
        Check check = new Check();
        kindsFromOneToFive(check);
        noSuchTaskIsRefused(check);
        kindOutsideIsRefused(check);
        notAliveIsRefused(check);
        downIsRefused(check);
        whichRefusalIsFirst(check);
        allPassOn(check);
        levelsInOrder(check);
        failingHooks(check);
        failingHooksAreAskedInOrder(check);
        ignored(check);
        endsTheTask(check);
        endsTheApplication(check);
        startsAgain(check);
        shutsDown(check);
        shutsDownAFullSystem(check);
        check.end();
    }

    /** "A FAULT of a task, of a kind 1 .. 5" */
    private static void kindsFromOneToFive(Check check) {
        ProtectHooks x = Systems.of(0, 1, 1);
        for (int kind = 1; kind <= 5; kind++) {
            check.due("fault(1, " + kind + ")", x.fault(1, kind), 1);
            check.dueLine(x, kind - 1, 1, kind, 0, 1);
        }
    }

    /** "-1 there is no task" */
    private static void noSuchTaskIsRefused(Check check) {
        for (int task : Edges.outside(1, 5)) {
            check.refused("fault(" + task + ", 1)", Systems::small, x -> x.fault(task, 1), -1);
        }
        for (int task : Edges.outside(1, 60)) {
            check.refused("fault(" + task + ", 5), full", Systems::full, x -> x.fault(task, 5), -1);
        }
        check.due("fault(60, 5), full", Systems.full().fault(60, 5), 2);
    }

    /** "-2 no such kind" */
    private static void kindOutsideIsRefused(Check check) {
        for (int kind : Edges.outside(1, 5)) {
            check.refused("fault(1, " + kind + ")", Systems::small, x -> x.fault(1, kind), -2);
        }
    }

    /** "-3, also when the task is not ALIVE" */
    private static void notAliveIsRefused(Check check) {
        check.refused("fault(4, 1), not alive", Systems::small, x -> x.fault(4, 1), -3);
        check.refused("fault(4, 5), not alive", Systems::small, x -> x.fault(4, 5), -3);
        check.refused("fault(5, 1), its application has ended", Systems::ended, x -> x.fault(5, 1), -3);
    }

    /** "-3" */
    private static void downIsRefused(Check check) {
        for (int task = 1; task <= 5; task++) {
            int asked = task;
            check.refused("fault(" + task + ", 1), down", Systems::smallDown, x -> x.fault(asked, 1), -3);
        }
    }

    /** "the first that fits" */
    private static void whichRefusalIsFirst(Check check) {
        check.refused("fault(6, 0)", Systems::small, x -> x.fault(6, 0), -1);
        check.refused("fault(4, 6), not alive", Systems::small, x -> x.fault(4, 6), -2);
        check.refused("fault(6, 0), down", Systems::smallDown, x -> x.fault(6, 0), -1);
        check.refused("fault(1, 6), down", Systems::smallDown, x -> x.fault(1, 6), -2);
    }

    /** "If all pass on, the task is ended", "3 if all passed on" */
    private static void allPassOn(Check check) {
        ProtectHooks x = Systems.of(5, 2);
        check.due("fault(2, 1)", x.fault(2, 1), 2);
        check.dueLine(x, 0, 2, 1, 3, 2);
        check.due("holds(2, 0, 1)", x.holds(2, 0, 1), -3);
        check.due("holds(1, 0, 1)", x.holds(1, 0, 1), 1);
    }

    /** "level 0 first, up to the first one that does not pass on" */
    private static void levelsInOrder(Check check) {
        for (int decides = 0; decides < 3; decides++) {
            for (int does = 1; does <= 5; does++) {
                ProtectHooks x = Systems.of(1, 1);
                x.hook(decides, does, false);
                for (int behind = decides + 1; behind < 3; behind++) {
                    x.hook(behind, does % 5 + 1, true);
                }
                check.due("fault(1, 3)", x.fault(1, 3), does);
                check.dueLine(x, 0, 1, 3, decides, does);
            }
        }
    }

    /** "One that FAILS shuts down, whatever it does" */
    private static void failingHooks(Check check) {
        for (int level = 0; level < 3; level++) {
            for (int does = 0; does <= 5; does++) {
                ProtectHooks x = Systems.of(10, 1);
                x.holds(1, 0, 1);
                x.hook(level, does, true);
                check.due("fault(1, 2), a hook fails", x.fault(1, 2), 5);
                check.due("state(1)", x.state(1), 2);
                check.dueLine(x, 0, 1, 2, level, 5);
                check.due("cleaned(-1, 0)", x.cleaned(-1, 0), 0);
            }
        }
    }

    /** "the hooks are asked, level 0 first": the first that fails is the one that decided */
    private static void failingHooksAreAskedInOrder(Check check) {
        ProtectHooks x = Systems.of(10, 1);
        x.hook(0, 0, false);
        x.hook(1, 0, true);
        x.hook(2, 0, true);
        check.due("fault(1, 2)", x.fault(1, 2), 5);
        check.dueLine(x, 0, 1, 2, 1, 5);
    }

    /** "1 ignored" */
    private static void ignored(Check check) {
        ProtectHooks x = Systems.of(0, 1, 1);
        x.holds(1, 0, 1);
        check.due("fault(1, 1)", x.fault(1, 1), 1);
        check.due("fault(1, 1)", x.fault(1, 1), 1);
        check.due("cleaned(-1, 0)", x.cleaned(-1, 0), 0);
        check.due("holds(1, 0, 2)", x.holds(1, 0, 2), 2);
        check.due("state(1)", x.state(1), 0);
    }

    /** "2 the task is ended" */
    private static void endsTheTask(Check check) {
        ProtectHooks x = Systems.of(5, 2, 2);
        check.due("fault(1, 1)", x.fault(1, 1), 2);
        check.dueLine(x, 0, 1, 1, 0, 2);
        check.due("holds(1, 0, 1)", x.holds(1, 0, 1), -3);
        check.due("holds(2, 0, 1)", x.holds(2, 0, 1), 1);
        check.due("state(1)", x.state(1), 0);
        check.due("fault(2, 1)", x.fault(2, 1), 2);
        check.due("state(1), no task is alive", x.state(1), 0);
        check.due("task(1, 0)", x.task(1, 0), 3);
    }

    /** "3 its application" */
    private static void endsTheApplication(Check check) {
        ProtectHooks x = Systems.of(5, 2, 3);
        x.application(0);
        x.task(2, 0);
        x.holds(2, 0, 1);
        x.holds(3, 0, 2);
        check.due("fault(1, 1)", x.fault(1, 1), 3);
        check.due("state(1)", x.state(1), 1);
        check.due("state(2)", x.state(2), 0);
        check.due("fault(2, 1)", x.fault(2, 1), -3);
        check.due("cleaned(-1, 0)", x.cleaned(-1, 0), 1);
        check.due("holds(3, 0, 1)", x.holds(3, 0, 1), 2);
    }

    /** "4 it is started again" */
    private static void startsAgain(Check check) {
        ProtectHooks x = Systems.of(1, 3);
        x.application(0);
        x.task(2, 0);
        x.holds(2, 0, 4);
        x.holds(4, 0, 5);
        x.fault(1, 1);
        x.fault(4, 1);
        x.hook(1, 4, false);
        check.due("fault(3, 1)", x.fault(3, 1), 4);
        check.dueLine(x, 2, 3, 1, 1, 4);
        check.due("state(1)", x.state(1), 0);
        check.due("holds(1, 1, 1), ended before", x.holds(1, 1, 1), 1);
        check.due("holds(2, 0, 4), cleaned", x.holds(2, 0, 4), 1);
        check.due("holds(3, 1, 2)", x.holds(3, 1, 2), 1);
        check.due("holds(4, 1, 3), of another application", x.holds(4, 1, 3), -3);
    }

    /** "5 the system is shut down" */
    private static void shutsDown(Check check) {
        ProtectHooks x = Systems.of(5, 2, 5);
        x.application(0);
        x.task(2, 0);
        x.holds(1, 0, 1);
        check.due("fault(1, 1)", x.fault(1, 1), 5);
        check.dueLine(x, 0, 1, 1, 0, 5);
        check.due("state(1)", x.state(1), 2);
        check.due("state(2)", x.state(2), 2);
        check.due("cleaned(-1, 0), things stay", x.cleaned(-1, 0), 0);
        check.due("fault(3, 1)", x.fault(3, 1), -3);
    }

    /** "the system is DOWN, all tasks are not ALIVE, all applications have ENDED" */
    private static void shutsDownAFullSystem(Check check) {
        ProtectHooks x = Systems.fullAndDown();
        for (int application = 1; application <= 16; application++) {
            check.due("state(" + application + ")", x.state(application), 2);
        }
        for (int task = 1; task <= 60; task++) {
            check.due("fault(" + task + ", 1)", x.fault(task, 1), -3);
        }
        check.due("cleaned(-1, 0), things stay", x.cleaned(-1, 0), 0);
        check.due("log(-1, 0)", x.log(-1, 0), 1);
    }
}

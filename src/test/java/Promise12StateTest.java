public final class Promise12StateTest {
    public static void main(String[] args) {
        Check check = new Check();
        runsOrHasEnded(check);
        endedForWantOfRestarts(check);
        downWhateverItWas(check);
        downByAThing(check);
        noSuchApplicationIsRefused(check);
        itOnlyTells(check);
        check.end();
    }

    /** "each RUNS (0), has ENDED (1)" */
    private static void runsOrHasEnded(Check check) {
        ProtectHooks x = Systems.ended();
        check.due("state(1), one task is not alive", x.state(1), 0);
        check.due("state(2)", x.state(2), 0);
        check.due("state(3), ended", x.state(3), 1);
        ProtectHooks full = Systems.fullAndEnded();
        check.due("state(1)", full.state(1), 0);
        check.due("state(15)", full.state(15), 0);
        check.due("state(16), ended", full.state(16), 1);
    }

    /** "otherwise it has ENDED" */
    private static void endedForWantOfRestarts(Check check) {
        ProtectHooks x = Systems.of(1, 1, 4);
        x.fault(1, 1);
        check.due("state(1), started again", x.state(1), 0);
        x.fault(1, 1);
        check.due("state(1), none left", x.state(1), 1);
    }

    /** "2 when the system is DOWN" */
    private static void downWhateverItWas(Check check) {
        ProtectHooks x = Systems.ended();
        x.hook(2, 5, false);
        x.fault(1, 1);
        check.due("state(1), it ran", x.state(1), 2);
        check.due("state(2), it ran", x.state(2), 2);
        check.due("state(3), it had ended", x.state(3), 2);
        check.due("state(0), down", x.state(0), -1);
        check.due("state(4), down", x.state(4), -1);
        check.due("state(16), full and down", Systems.fullAndDown().state(16), 2);
        check.due("state(17), full and down", Systems.fullAndDown().state(17), -1);
    }

    /** "then the system is shut down at once" */
    private static void downByAThing(Check check) {
        ProtectHooks x = Systems.of(5, 1, 2);
        x.application(5);
        x.holds(1, 3, 1);
        x.holds(1, 3, 2);
        x.fault(1, 1);
        check.due("state(1)", x.state(1), 2);
        check.due("state(2)", x.state(2), 2);
    }

    /** "-1 there is none" */
    private static void noSuchApplicationIsRefused(Check check) {
        for (int application : Edges.outside(1, 3)) {
            check.refused("state(" + application + ")", Systems::small, x -> x.state(application), -1);
            check.refused("state(" + application + "), down", Systems::smallDown, x -> x.state(application), -1);
        }
        for (int application : Edges.outside(1, 16)) {
            check.refused("state(" + application + "), full", Systems::full, x -> x.state(application), -1);
        }
    }

    /** It is no refusal, but changes as little. */
    private static void itOnlyTells(Check check) {
        check.refused("state(3)", Systems::small, x -> x.state(3), 0);
        check.refused("state(3), ended", Systems::ended, x -> x.state(3), 1);
    }
}

public final class Promise08HookTest {
    public static void main(String[] args) {
        Check check = new Check();
        levelsAndDoings(check);
        noSuchLevelIsRefused(check);
        noSuchDoingIsRefused(check);
        downIsRefused(check);
        whichRefusalIsFirst(check);
        theLastSettingCounts(check);
        neverTooOften(check);
        check.end();
    }

    /** "the levels 0 task, 1 application, 2 system", "0 passes on", "5 shuts down" */
    private static void levelsAndDoings(Check check) {
        for (int level = 0; level <= 2; level++) {
            for (int does = 0; does <= 5; does++) {
                ProtectHooks x = Systems.of(1, 1);
                String call = "hook(" + level + ", " + does + ", ";
                check.due(call + "true)", x.hook(level, does, true), 1);
                check.due(call + "false)", x.hook(level, does, false), 1);
                check.due("fault(1, 1) behind " + call + "false)", x.fault(1, 1), does == 0 ? 2 : does);
                check.due("log(0, 2)", x.log(0, 2), does == 0 ? 3 : level);
            }
        }
    }

    /** "-1 there is no level" */
    private static void noSuchLevelIsRefused(Check check) {
        for (int level : Edges.outside(0, 2)) {
            check.refused("hook(" + level + ", 0, true)", Systems::small, x -> x.hook(level, 0, true), -1);
            check.refused("hook(" + level + ", 5, false)", Systems::small, x -> x.hook(level, 5, false), -1);
        }
    }

    /** "-2 no such doing" */
    private static void noSuchDoingIsRefused(Check check) {
        for (int does : Edges.outside(0, 5)) {
            for (int level = 0; level <= 2; level++) {
                int asked = level;
                String call = "hook(" + level + ", " + does + ", true)";
                check.refused(call, Systems::small, x -> x.hook(asked, does, true), -2);
            }
            check.refused("hook(2, " + does + ", false)", Systems::small, x -> x.hook(2, does, false), -2);
        }
    }

    /** "-3" */
    private static void downIsRefused(Check check) {
        check.refused("hook(0, 0, false), down", Systems::smallDown, x -> x.hook(0, 0, false), -3);
        check.refused("hook(2, 5, true), down", Systems::smallDown, x -> x.hook(2, 5, true), -3);
    }

    /** "the first that fits" */
    private static void whichRefusalIsFirst(Check check) {
        check.refused("hook(3, 6, true)", Systems::small, x -> x.hook(3, 6, true), -1);
        check.refused("hook(-1, -1, true)", Systems::small, x -> x.hook(-1, -1, true), -1);
        check.refused("hook(3, 6, false), down", Systems::smallDown, x -> x.hook(3, 6, false), -1);
        check.refused("hook(0, 6, false), down", Systems::smallDown, x -> x.hook(0, 6, false), -2);
    }

    /** "What a level's hook DOES, and whether it FAILS" */
    private static void theLastSettingCounts(Check check) {
        ProtectHooks x = Systems.of(0, 2, 5);
        x.hook(0, 5, true);
        x.hook(0, 1, false);
        check.due("fault(1, 1)", x.fault(1, 1), 1);
        x.hook(0, 0, false);
        x.hook(2, 2, false);
        check.due("fault(1, 1)", x.fault(1, 1), 2);
        check.dueLine(x, 1, 1, 1, 2, 2);
        x.hook(1, 0, true);
        check.due("fault(2, 1)", x.fault(2, 1), 5);
        check.dueLine(x, 2, 2, 1, 1, 5);
    }

    private static void neverTooOften(Check check) {
        ProtectHooks x = Systems.of(0, 1);
        for (int i = 0; i < 500; i++) {
            check.due("hook(2, " + i % 6 + ", false)", x.hook(2, i % 6, false), 1);
        }
        check.due("fault(1, 1)", x.fault(1, 1), 1);
    }
}

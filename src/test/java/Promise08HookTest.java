public final class Promise08HookTest {
    public static void main(String[] args) {
        Check check = new Check();
        range(check);
        theLastSettingCounts(check);
        refusalsChangeNothing(check);
        whichRefusalIsFirst(check);
        check.end();
    }

    private static void range(Check check) {
        ProtectHooks x = new ProtectHooks();
        for (int level = 0; level < 3; level++) {
            for (int does = 0; does <= 5; does++) {
                check.due("hook(" + level + ", " + does + ", true)", x.hook(level, does, true), 1);
                check.due("hook(" + level + ", " + does + ", false)", x.hook(level, does, false), 1);
            }
        }
        check.due("hook(-1, 0, false)", x.hook(-1, 0, false), -1);
        check.due("hook(3, 0, false)", x.hook(3, 0, false), -1);
        check.due("hook(MIN, 0, false)", x.hook(Integer.MIN_VALUE, 0, false), -1);
        check.due("hook(0, -1, false)", x.hook(0, -1, false), -2);
        check.due("hook(2, 6, true)", x.hook(2, 6, true), -2);
        check.due("hook(1, MAX, true)", x.hook(1, Integer.MAX_VALUE, true), -2);
    }

    private static void theLastSettingCounts(Check check) {
        ProtectHooks x = Systems.of(0, 2, 5);
        x.hook(0, 5, true);
        x.hook(0, 1, false);
        check.due("fault(1, 1)", x.fault(1, 1), 1);
        x.hook(0, 0, false);
        x.hook(2, 2, false);
        check.due("fault(1, 1)", x.fault(1, 1), 2);
        check.dueLine(x, 1, 1, 1, 2, 2);
        x.hook(1, 0, true);
        check.due("fault(2, 1)", x.fault(2, 1), 5);
        check.dueLine(x, 2, 2, 1, 1, 5);
    }

    private static void refusalsChangeNothing(Check check) {
        ProtectHooks x = Systems.of(0, 1, 1);
        x.hook(0, 6, true);
        x.hook(0, -1, true);
        check.due("fault(1, 1)", x.fault(1, 1), 1);
    }

    private static void whichRefusalIsFirst(Check check) {
        ProtectHooks x = Systems.down();
        check.due("hook(3, 6, false), down", x.hook(3, 6, false), -1);
        check.due("hook(0, 6, false), down", x.hook(0, 6, false), -2);
        check.due("hook(0, 0, false), down", x.hook(0, 0, false), -3);
    }
}

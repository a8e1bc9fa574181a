public final class Promise02ApplicationTest {
    public static void main(String[] args) {
        Check check = new Check();
        numbersAndRange(check);
        sixteenAtMost(check);
        whichRefusalIsFirst(check);
        check.end();
    }

    private static void numbersAndRange(Check check) {
        ProtectHooks x = new ProtectHooks();
        check.due("application(-1)", x.application(-1), -2);
        check.due("application(11)", x.application(11), -2);
        check.due("application(MIN)", x.application(Integer.MIN_VALUE), -2);
        check.due("application(MAX)", x.application(Integer.MAX_VALUE), -2);
        check.due("application(0)", x.application(0), 1);
        check.due("application(10)", x.application(10), 2);
        check.due("state(2)", x.state(2), 0);
        check.due("state(3)", x.state(3), -1);
    }

    private static void sixteenAtMost(Check check) {
        ProtectHooks x = new ProtectHooks();
        for (int number = 1; number <= 16; number++) {
            check.due("application(1)", x.application(1), number);
        }
        check.due("application(1), the 17th", x.application(1), -4);
        check.due("state(16)", x.state(16), 0);
        check.due("state(17)", x.state(17), -1);
    }

    private static void whichRefusalIsFirst(Check check) {
        ProtectHooks x = new ProtectHooks();
        for (int number = 1; number <= 16; number++) {
            x.application(0);
        }
        check.due("application(11), full", x.application(11), -2);
        x.task(1, 0);
        x.hook(0, 5, false);
        x.fault(1, 1);
        check.due("application(11), full and down", x.application(11), -2);
        check.due("application(0), full and down", x.application(0), -3);
    }
}

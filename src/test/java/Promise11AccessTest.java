public final class Promise11AccessTest {
    public static void main(String[] args) {
        Check check = new Check();
        inARegion(check);
        outsideIsAFault(check);
        refusals(check);
        check.end();
    }

    private static void inARegion(Check check) {
        ProtectHooks x = Systems.of(0, 1);
        x.region(1, 100, 10);
        check.due("access(1, 100)", x.access(1, 100), 1);
        check.due("access(1, 109)", x.access(1, 109), 1);
        check.due("log(-1, 0)", x.log(-1, 0), 0);
        check.due("access(1, 110)", x.access(1, 110), -2);
        check.dueLine(x, 0, 1, 2, 3, 2);
    }

    private static void outsideIsAFault(Check check) {
        for (int does = 1; does <= 5; does++) {
            ProtectHooks x = Systems.of(1, 1);
            x.hook(1, does, false);
            check.due("access(1, -1)", x.access(1, -1), -does);
            check.dueLine(x, 0, 1, 2, 1, does);
        }
        ProtectHooks x = Systems.of(0, 1, 4);
        check.due("access(1, 0), no restarts", x.access(1, 0), -3);
        check.due("state(1)", x.state(1), 1);
    }

    private static void refusals(Check check) {
        ProtectHooks x = Systems.of(0, 1);
        x.region(1, 0, 5);
        check.due("access(0, 0)", x.access(0, 0), -1000);
        check.due("access(2, 0)", x.access(2, 0), -1000);
        check.due("access(MIN, 0)", x.access(Integer.MIN_VALUE, 0), -1000);
        x.fault(1, 1);
        check.due("access(1, 0), not alive", x.access(1, 0), -3000);
        check.due("access(1, 9), not alive", x.access(1, 9), -3000);
        check.due("log(-1, 0)", x.log(-1, 0), 1);
        ProtectHooks down = Systems.down();
        check.due("access(2, 0), down", down.access(2, 0), -1000);
        check.due("access(1, 0), down", down.access(1, 0), -3000);
    }
}

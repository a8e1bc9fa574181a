public final class Promise01NewObjectTest {
    public static void main(String[] args) {
        Check check = new Check();
        nothingIsThere(check);
        itIsUp(check);
        hooksPassOnAndDoNotFail(check);
        objectsShareNothing(check);
        check.end();
    }

    private static void nothingIsThere(Check check) {
        ProtectHooks x = new ProtectHooks();
        check.due("log(-1, 0)", x.log(-1, 0), 0);
        check.due("cleaned(-1, 0)", x.cleaned(-1, 0), 0);
        check.due("log(0, 0)", x.log(0, 0), -1);
        check.due("cleaned(0, 0)", x.cleaned(0, 0), -1);
        check.due("state(1)", x.state(1), -1);
        check.due("trusted(1, 0)", x.trusted(1, 0), -1);
        check.due("fault(1, 1)", x.fault(1, 1), -1);
    }

    private static void itIsUp(Check check) {
        ProtectHooks x = new ProtectHooks();
        check.due("hook(0, 0, false)", x.hook(0, 0, false), 1);
        check.due("application(0)", x.application(0), 1);
        check.due("state(1)", x.state(1), 0);
    }

    private static void hooksPassOnAndDoNotFail(Check check) {
        ProtectHooks x = Systems.of(0, 1);
        check.due("fault(1, 1)", x.fault(1, 1), 2);
        check.dueLine(x, 0, 1, 1, 3, 2);
    }

    private static void objectsShareNothing(Check check) {
        ProtectHooks down = Systems.down();
        ProtectHooks x = new ProtectHooks();
        check.due("state(1) of the one that is down", down.state(1), 2);
        check.due("state(1)", x.state(1), -1);
        check.due("application(3)", x.application(3), 1);
        check.due("log(-1, 0)", x.log(-1, 0), 0);
    }
}

public final class Promise01NewObjectTest {
    private static final int LEAST = Integer.MIN_VALUE;
    private static final int MOST = Integer.MAX_VALUE;

    public static void main(String[] args) {
        Check check = new Check();
        nothingIsThere(check);
        nothingIsThereUnderAnyNumber(check);
        refusalsLeaveItNew(check);
        itIsUp(check);
        hooksPassOnAndDoNotFail(check);
        objectsShareNothing(check);
        check.end();
    }

    /** "Nothing" */
    private static void nothingIsThere(Check check) {
        ProtectHooks x = new ProtectHooks();
        check.due("task(1, 0)", x.task(1, 0), -1);
        check.due("region(1, 0, 1)", x.region(1, 0, 1), -1);
        check.due("holds(1, 0, 1)", x.holds(1, 0, 1), -1);
        check.due("fault(1, 1)", x.fault(1, 1), -1);
        check.due("arrival(1, 0)", x.arrival(1, 0), -1000);
        check.due("trusted(1, 0)", x.trusted(1, 0), -1);
        check.due("access(1, 0)", x.access(1, 0), -1000);
        check.due("state(1)", x.state(1), -1);
        check.due("log(-1, 0)", x.log(-1, 0), 0);
        check.due("log(0, 0)", x.log(0, 0), -1);
        check.due("cleaned(-1, 0)", x.cleaned(-1, 0), 0);
        check.due("cleaned(0, 0)", x.cleaned(0, 0), -1);
    }

    /** "Nothing" */
    private static void nothingIsThereUnderAnyNumber(Check check) {
        int[] numbers = {LEAST, -1, 0, 1, 16, 17, 60, 61, MOST};
        for (int number : numbers) {
            ProtectHooks x = new ProtectHooks();
            check.due("task(" + number + ", MAX)", x.task(number, Long.MAX_VALUE), -1);
            check.due("region(" + number + ", MIN, MIN)", x.region(number, Long.MIN_VALUE, Long.MIN_VALUE), -1);
            check.due("holds(" + number + ", MIN, MAX)", x.holds(number, LEAST, MOST), -1);
            check.due("fault(" + number + ", MAX)", x.fault(number, MOST), -1);
            check.due("arrival(" + number + ", MIN)", x.arrival(number, Long.MIN_VALUE), -1000);
            check.due("trusted(" + number + ", MAX)", x.trusted(number, Long.MAX_VALUE), -1);
            check.due("access(" + number + ", MAX)", x.access(number, Long.MAX_VALUE), -1000);
            check.due("state(" + number + ")", x.state(number), -1);
            check.due("log(" + number + ", 1)", x.log(number, 1), -1);
            check.due("cleaned(" + number + ", 1)", x.cleaned(number, 1), -1);
        }
    }

    /** "REFUSALS change nothing" */
    private static void refusalsLeaveItNew(Check check) {
        check.refused("application(11)", ProtectHooks::new, x -> x.application(11), -2);
        check.refused("task(1, 0)", ProtectHooks::new, x -> x.task(1, 0), -1);
        check.refused("region(1, 0, 1)", ProtectHooks::new, x -> x.region(1, 0, 1), -1);
        check.refused("holds(1, 0, 1)", ProtectHooks::new, x -> x.holds(1, 0, 1), -1);
        check.refused("fault(1, 1)", ProtectHooks::new, x -> x.fault(1, 1), -1);
        check.refused("hook(3, 5, true)", ProtectHooks::new, x -> x.hook(3, 5, true), -1);
        check.refused("arrival(1, 0)", ProtectHooks::new, x -> x.arrival(1, 0), -1000);
        check.refused("access(1, 0)", ProtectHooks::new, x -> x.access(1, 0), -1000);
    }

    /** "the system is UP" */
    private static void itIsUp(Check check) {
        ProtectHooks x = new ProtectHooks();
        check.due("hook(0, 0, false)", x.hook(0, 0, false), 1);
        check.due("application(0)", x.application(0), 1);
        check.due("state(1)", x.state(1), 0);
    }

    /** "each DOES, at first 0", "and may FAIL (at first not)" */
    private static void hooksPassOnAndDoNotFail(Check check) {
        ProtectHooks x = Systems.of(0, 1);
        check.due("fault(1, 1)", x.fault(1, 1), 2);
        check.dueLine(x, 0, 1, 1, 3, 2);
    }

    private static void objectsShareNothing(Check check) {
        ProtectHooks down = Systems.down();
        ProtectHooks x = new ProtectHooks();
        check.due("state(1) of the one that is down", down.state(1), 2);
        check.due("state(1)", x.state(1), -1);
        check.due("application(3)", x.application(3), 1);
        check.due("log(-1, 0)", x.log(-1, 0), 0);
    }
}

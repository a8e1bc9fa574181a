public final class Promise13LogTest {
    public static void main(String[] args) {
        Check check = new Check();
        linesOfAllFaults(check);
        refusals(check);
        theFirstFiveHundred(check);
        check.end();
    }

    private static void linesOfAllFaults(Check check) {
        ProtectHooks x = new ProtectHooks();
        x.application(1);
        x.task(1, 10);
        x.task(1, 10);
        x.hook(2, 1, false);
        x.fault(2, 5);
        x.access(1, 0);
        x.arrival(2, 0);
        x.arrival(2, 0);
        x.arrival(2, 0);
        x.hook(1, 4, false);
        x.fault(1, 3);
        x.fault(2, 1);
        check.due("log(-1, 0)", x.log(-1, 0), 5);
        check.dueLine(x, 0, 2, 5, 2, 1);
        check.dueLine(x, 1, 1, 2, 2, 1);
        check.dueLine(x, 2, 2, 4, 2, 1);
        check.dueLine(x, 3, 1, 3, 1, 4);
        check.dueLine(x, 4, 2, 1, 1, 3);
    }

    private static void refusals(Check check) {
        ProtectHooks x = Systems.of(0, 1);
        check.due("log(0, 0), none yet", x.log(0, 0), -1);
        x.fault(1, 6);
        x.fault(2, 1);
        check.due("log(-1, 0), refusals write none", x.log(-1, 0), 0);
        x.fault(1, 1);
        check.due("log(0, -1)", x.log(0, -1), -2);
        check.due("log(0, 4)", x.log(0, 4), -2);
        check.due("log(0, MAX)", x.log(0, Integer.MAX_VALUE), -2);
        check.due("log(1, 0)", x.log(1, 0), -1);
        check.due("log(1, 4), which is first", x.log(1, 4), -1);
        check.due("log(-1, 1)", x.log(-1, 1), -1);
        check.due("log(-1, 4)", x.log(-1, 4), -1);
        check.due("log(-2, 0)", x.log(-2, 0), -1);
        check.due("log(MIN, 0)", x.log(Integer.MIN_VALUE, 0), -1);
        check.due("log(MAX, 0)", x.log(Integer.MAX_VALUE, 0), -1);
    }

    private static void theFirstFiveHundred(Check check) {
        ProtectHooks x = Systems.of(0, 1, 1);
        for (int i = 0; i < 501; i++) {
            x.fault(1, i % 5 + 1);
        }
        check.due("log(-1, 0)", x.log(-1, 0), 501);
        check.dueLine(x, 499, 1, 5, 0, 1);
        check.due("log(500, 0), not kept", x.log(500, 0), -1);
        check.due("log(0, 1)", x.log(0, 1), 1);
    }
}

public final class Promise07CleanedTest {
    public static void main(String[] args) {
        Check check = new Check();
        byKindsThenNumbers(check);
        tasksByNumbers(check);
        nothingBehindAFailure(check);
        refusals(check);
        theFirstFiveHundred(check);
        check.end();
    }

    private static void byKindsThenNumbers(Check check) {
        ProtectHooks x = Systems.of(0, 2);
        x.holds(1, 3, 9);
        x.holds(1, 1, 32);
        x.holds(1, 1, 1);
        x.holds(2, 1, 2);
        x.holds(1, 2, 5);
        x.holds(1, 0, 32);
        x.fault(1, 1);
        check.due("cleaned(-1, 0)", x.cleaned(-1, 0), 5);
        check.dueCleaned(x, 0, 1, 0, 32);
        check.dueCleaned(x, 1, 1, 1, 1);
        check.dueCleaned(x, 2, 1, 1, 32);
        check.dueCleaned(x, 3, 1, 2, 5);
        check.dueCleaned(x, 4, 1, 3, 9);
    }

    private static void tasksByNumbers(Check check) {
        ProtectHooks x = Systems.of(0, 3, 3);
        x.holds(3, 0, 1);
        x.holds(2, 0, 2);
        x.holds(1, 0, 3);
        x.holds(2, 3, 3);
        x.fault(3, 1);
        check.due("cleaned(-1, 0)", x.cleaned(-1, 0), 4);
        check.dueCleaned(x, 0, 1, 0, 3);
        check.dueCleaned(x, 1, 2, 0, 2);
        check.dueCleaned(x, 2, 2, 3, 3);
        check.dueCleaned(x, 3, 3, 0, 1);
    }

    private static void nothingBehindAFailure(Check check) {
        ProtectHooks x = Systems.of(3, 3, 4);
        x.holds(1, 3, 7);
        x.holds(2, 3, 8);
        x.holds(2, 3, 9);
        x.holds(2, 2, 9);
        x.holds(3, 0, 1);
        check.due("fault(3, 1)", x.fault(3, 1), 5);
        check.due("cleaned(-1, 0)", x.cleaned(-1, 0), 3);
        check.dueCleaned(x, 0, 1, 3, 7);
        check.dueCleaned(x, 1, 2, 2, 9);
        check.dueCleaned(x, 2, 2, 3, 8);
    }

    private static void refusals(Check check) {
        ProtectHooks x = Systems.of(0, 1);
        x.holds(1, 0, 1);
        check.due("cleaned(0, 0), none yet", x.cleaned(0, 0), -1);
        x.fault(1, 1);
        check.due("cleaned(0, -1)", x.cleaned(0, -1), -2);
        check.due("cleaned(0, 3)", x.cleaned(0, 3), -2);
        check.due("cleaned(0, MAX)", x.cleaned(0, Integer.MAX_VALUE), -2);
        check.due("cleaned(1, 0)", x.cleaned(1, 0), -1);
        check.due("cleaned(1, 3), which is first", x.cleaned(1, 3), -1);
        check.due("cleaned(-1, 1)", x.cleaned(-1, 1), -1);
        check.due("cleaned(-1, 3)", x.cleaned(-1, 3), -1);
        check.due("cleaned(-2, 0)", x.cleaned(-2, 0), -1);
        check.due("cleaned(MIN, 0)", x.cleaned(Integer.MIN_VALUE, 0), -1);
        check.due("cleaned(MAX, 0)", x.cleaned(Integer.MAX_VALUE, 0), -1);
    }

    /** 501 things in 5 x 97 + 16: one of kind 3 a fault, so that none fails. */
    private static void theFirstFiveHundred(Check check) {
        ProtectHooks x = Systems.of(10, 1, 4);
        int held = 0;
        for (int fault = 0; fault < 6; fault++) {
            for (int thing = 0; thing < 97 && held < 501; thing++) {
                x.holds(1, thing / 32, thing % 32 + 1);
                held++;
            }
            check.due("fault(1, 1)", x.fault(1, 1), 4);
        }
        check.due("cleaned(-1, 0)", x.cleaned(-1, 0), 501);
        check.dueCleaned(x, 499, 1, 0, 15);
        check.due("cleaned(500, 0), not kept", x.cleaned(500, 0), -1);
    }
}

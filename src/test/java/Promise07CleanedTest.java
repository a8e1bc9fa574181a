public final class Promise07CleanedTest {
    public static void main(String[] args) {
        Check check = new Check();
        noneYet(check);
        theFirstAndTheLast(check);
        countedFromMinusOneOnly(check);
        indexOutsideIsRefused(check);
        whatOutsideIsRefused(check);
        whichRefusalIsFirst(check);
        toldWhenDown(check);
        fourHundredNinetyNine(check);
        fiveHundred(check);
        fiveHundredAndOne(check);
        check.end();
    }

    /** "how many there were": none */
    private static void noneYet(Check check) {
        ProtectHooks x = Systems.of(0, 2);
        x.holds(1, 0, 1);
        check.due("cleaned(-1, 0), none yet", x.cleaned(-1, 0), 0);
        check.due("cleaned(0, 0), none yet", x.cleaned(0, 0), -1);
        check.due("cleaned(0, 3), none yet", x.cleaned(0, 3), -1);
        x.fault(2, 1);
        check.due("cleaned(-1, 0), it held nothing", x.cleaned(-1, 0), 0);
        check.due("cleaned(0, 0), it held nothing", x.cleaned(0, 0), -1);
    }

    /** "from 0", "what = 0 the task, 1 its kind, 2 its number" */
    private static void theFirstAndTheLast(Check check) {
        ProtectHooks x = Systems.of(0, 60);
        x.holds(60, 3, 32);
        x.holds(60, 0, 1);
        x.fault(60, 1);
        check.due("cleaned(-1, 0)", x.cleaned(-1, 0), 2);
        check.dueCleaned(x, 0, 60, 0, 1);
        check.dueCleaned(x, 1, 60, 3, 32);
        check.due("cleaned(2, 0)", x.cleaned(2, 0), -1);
    }

    /** "i = -1 with what = 0" */
    private static void countedFromMinusOneOnly(Check check) {
        for (int what : new int[] {Integer.MIN_VALUE, -1, 1, 2, 3, 4, Integer.MAX_VALUE}) {
            check.refused("cleaned(-1, " + what + ")", Systems::small, x -> x.cleaned(-1, what), -1);
        }
        check.due("cleaned(-1, 0)", Systems.small().cleaned(-1, 0), 2);
    }

    /** "-1 there is none" */
    private static void indexOutsideIsRefused(Check check) {
        for (int i : Edges.outside(-1, 1)) {
            check.refused("cleaned(" + i + ", 0)", Systems::small, x -> x.cleaned(i, 0), -1);
            check.refused("cleaned(" + i + ", 2)", Systems::small, x -> x.cleaned(i, 2), -1);
        }
        check.refused("cleaned(499, 0)", Systems::small, x -> x.cleaned(499, 0), -1);
        check.refused("cleaned(500, 0)", Systems::small, x -> x.cleaned(500, 0), -1);
    }

    /** "-2 no such what" */
    private static void whatOutsideIsRefused(Check check) {
        for (int what : Edges.outside(0, 2)) {
            check.refused("cleaned(0, " + what + ")", Systems::small, x -> x.cleaned(0, what), -2);
            check.refused("cleaned(1, " + what + ")", Systems::small, x -> x.cleaned(1, what), -2);
        }
    }

    /** "the first that fits" */
    private static void whichRefusalIsFirst(Check check) {
        check.refused("cleaned(2, 3)", Systems::small, x -> x.cleaned(2, 3), -1);
        check.refused("cleaned(-2, -1)", Systems::small, x -> x.cleaned(-2, -1), -1);
        check.refused("cleaned(MAX, MIN)", Systems::small, x -> x.cleaned(Integer.MAX_VALUE, Integer.MIN_VALUE), -1);
    }

    /** "then there is nothing but what tells" */
    private static void toldWhenDown(Check check) {
        ProtectHooks x = Systems.smallDown();
        check.due("cleaned(-1, 0), down", x.cleaned(-1, 0), 2);
        check.dueCleaned(x, 0, 4, 0, 5);
        check.dueCleaned(x, 1, 4, 3, 6);
        check.due("cleaned(2, 0), down", x.cleaned(2, 0), -1);
        check.due("cleaned(1, 3), down", x.cleaned(1, 3), -2);
    }

    /**
     * So many things cleaned, at most 97 by a fault: one of kind 3 among them,
     * so that none fails. It takes 3 calls and one for each thing and fault.
     */
    private static ProtectHooks afterCleaning(int count) {
        ProtectHooks x = Systems.of(10, 1, 4);
        for (int held = 0; held < count; held++) {
            int thing = held % 97;
            x.holds(1, thing / 32, thing % 32 + 1);
            if (thing == 96 || held == count - 1) {
                x.fault(1, 1);
            }
        }
        return x;
    }

    /** "the first 500": the last one but one, and none behind it */
    private static void fourHundredNinetyNine(Check check) {
        ProtectHooks x = afterCleaning(499);
        check.due("cleaned(-1, 0) of 499", x.cleaned(-1, 0), 499);
        check.due("cleaned(498, 2) of 499", x.cleaned(498, 2), 14);
        check.due("cleaned(499, 0) of 499", x.cleaned(499, 0), -1);
    }

    /** "the first 500": the last one that is told */
    private static void fiveHundred(Check check) {
        check.dueCleaned(afterCleaning(500), 499, 1, 0, 15);
        ProtectHooks x = afterCleaning(500);
        check.due("cleaned(-1, 0) of 500", x.cleaned(-1, 0), 500);
        check.due("cleaned(500, 0) of 500", x.cleaned(500, 0), -1);
        check.due("cleaned(499, 3) of 500", x.cleaned(499, 3), -2);
    }

    /** "the first 500": the first one that is not told, but counted by "how many there were" */
    private static void fiveHundredAndOne(Check check) {
        ProtectHooks x = afterCleaning(501);
        check.due("cleaned(-1, 0) of 501", x.cleaned(-1, 0), 501);
        check.due("cleaned(500, 0) of 501", x.cleaned(500, 0), -1);
        ProtectHooks same = afterCleaning(501);
        check.due("cleaned(499, 2) of 501", same.cleaned(499, 2), 15);
        check.due("cleaned(501, 0) of 501", same.cleaned(501, 0), -1);
        ProtectHooks first = afterCleaning(501);
        check.due("cleaned(0, 2) of 501", first.cleaned(0, 2), 1);
        check.due("cleaned(500, 3) of 501", first.cleaned(500, 3), -1);
    }
}

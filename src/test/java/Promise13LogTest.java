public final class Promise13LogTest {
    public static void main(String[] args) {
        Check check = new Check();
        noneYet(check);
        linesOfAllFaults(check);
        theReactionAsItIsAtTheEnd(check);
        countedFromMinusOneOnly(check);
        indexOutsideIsRefused(check);
        whatOutsideIsRefused(check);
        whichRefusalIsFirst(check);
        toldWhenDown(check);
        fourHundredNinetyNine(check);
        fiveHundred(check);
        fiveHundredAndOne(check);
        check.end();
    }

    /** "how many there were": none */
    private static void noneYet(Check check) {
        ProtectHooks x = Systems.of(0, 1);
        x.fault(1, 6);
        x.fault(2, 1);
        x.arrival(1, 0);
        check.due("log(-1, 0), none yet", x.log(-1, 0), 0);
        check.due("log(0, 0), none yet", x.log(0, 0), -1);
        check.due("log(0, 4), none yet", x.log(0, 4), -1);
    }

    /** "A LINE of the log is written: the task, the kind, the level that decided" */
    private static void linesOfAllFaults(Check check) {
        ProtectHooks x = new ProtectHooks();
        x.application(1);
        x.task(1, 10);
        x.task(1, 10);
        x.hook(2, 1, false);
        x.fault(2, 5);
        x.access(1, 0);
        x.arrival(2, 0);
        x.arrival(2, 0);
        x.arrival(2, 0);
        x.hook(1, 4, false);
        x.fault(1, 3);
        x.fault(2, 1);
        check.due("log(-1, 0)", x.log(-1, 0), 5);
        check.dueLine(x, 0, 2, 5, 2, 1);
        check.dueLine(x, 1, 1, 2, 2, 1);
        check.dueLine(x, 2, 2, 4, 2, 1);
        check.dueLine(x, 3, 1, 3, 1, 4);
        check.dueLine(x, 4, 2, 1, 1, 3);
        check.due("log(5, 0)", x.log(5, 0), -1);
    }

    /** "the REACTION as it is at the end" */
    private static void theReactionAsItIsAtTheEnd(Check check) {
        ProtectHooks none = Systems.of(0, 60, 4);
        none.fault(60, 5);
        check.dueLine(none, 0, 60, 5, 0, 3);
        for (int does = 2; does <= 4; does++) {
            ProtectHooks failing = Systems.of(9, 1, does);
            failing.holds(1, 3, 1);
            failing.holds(1, 3, 32);
            failing.fault(1, 1);
            check.dueLine(failing, 0, 1, 1, 0, 5);
        }
    }

    /** "i = -1 with what = 0" */
    private static void countedFromMinusOneOnly(Check check) {
        for (int what : new int[] {Integer.MIN_VALUE, -1, 1, 2, 3, 4, Integer.MAX_VALUE}) {
            check.refused("log(-1, " + what + ")", Systems::small, x -> x.log(-1, what), -1);
        }
        check.due("log(-1, 0)", Systems.small().log(-1, 0), 2);
    }

    /** "-1 there is none" */
    private static void indexOutsideIsRefused(Check check) {
        for (int i : Edges.outside(-1, 1)) {
            check.refused("log(" + i + ", 0)", Systems::small, x -> x.log(i, 0), -1);
            check.refused("log(" + i + ", 3)", Systems::small, x -> x.log(i, 3), -1);
        }
        check.refused("log(499, 0)", Systems::small, x -> x.log(499, 0), -1);
        check.refused("log(500, 0)", Systems::small, x -> x.log(500, 0), -1);
    }

    /** "-2 no such what" */
    private static void whatOutsideIsRefused(Check check) {
        for (int what : Edges.outside(0, 3)) {
            check.refused("log(0, " + what + ")", Systems::small, x -> x.log(0, what), -2);
            check.refused("log(1, " + what + ")", Systems::small, x -> x.log(1, what), -2);
        }
    }

    /** "the first that fits" */
    private static void whichRefusalIsFirst(Check check) {
        check.refused("log(2, 4)", Systems::small, x -> x.log(2, 4), -1);
        check.refused("log(-2, -1)", Systems::small, x -> x.log(-2, -1), -1);
        check.refused("log(MAX, MIN)", Systems::small, x -> x.log(Integer.MAX_VALUE, Integer.MIN_VALUE), -1);
    }

    /** "then there is nothing but what tells" */
    private static void toldWhenDown(Check check) {
        ProtectHooks x = Systems.smallDown();
        x.fault(1, 1);
        x.access(1, -1);
        x.arrival(1, 200);
        check.due("log(-1, 0), down", x.log(-1, 0), 3);
        check.dueLine(x, 0, 4, 1, 3, 2);
        check.dueLine(x, 1, 3, 5, 2, 1);
        check.dueLine(x, 2, 2, 3, 0, 5);
        check.due("log(3, 0), down", x.log(3, 0), -1);
        check.due("log(2, 4), down", x.log(2, 4), -2);
    }

    /** Takes 3 calls and one for each fault; fault i is of kind i % 5 + 1. */
    private static ProtectHooks afterFaults(int count) {
        ProtectHooks x = Systems.of(0, 1, 1);
        for (int i = 0; i < count; i++) {
            x.fault(1, i % 5 + 1);
        }
        return x;
    }

    /** "the first 500": the last one but one, and none behind it */
    private static void fourHundredNinetyNine(Check check) {
        ProtectHooks x = afterFaults(499);
        check.due("log(-1, 0) of 499", x.log(-1, 0), 499);
        check.dueLine(x, 498, 1, 4, 0, 1);
        check.due("log(499, 0) of 499", x.log(499, 0), -1);
    }

    /** "the first 500": the last one that is told */
    private static void fiveHundred(Check check) {
        ProtectHooks x = afterFaults(500);
        check.due("log(-1, 0) of 500", x.log(-1, 0), 500);
        check.dueLine(x, 499, 1, 5, 0, 1);
        check.due("log(500, 0) of 500", x.log(500, 0), -1);
    }

    /** "the first 500": the first one that is not told, but counted by "how many there were" */
    private static void fiveHundredAndOne(Check check) {
        ProtectHooks x = afterFaults(501);
        check.due("log(-1, 0) of 501", x.log(-1, 0), 501);
        check.dueLine(x, 499, 1, 5, 0, 1);
        check.due("log(500, 0) of 501", x.log(500, 0), -1);
        check.due("log(0, 1) of 501", x.log(0, 1), 1);
        check.due("log(500, 4) of 501", x.log(500, 4), -1);
    }
}

/**
 * "To START IT AGAIN: its ALIVE tasks are ENDED likewise; then, if it has
 * RESTARTS left, there is one less, and all its tasks are ALIVE; otherwise it
 * has ENDED, and the REACTION is 3."
 */
public final class TermsRestartsTest {
    public static void main(String[] args) {
        Check check = new Check();
        noneFromTheBeginning(check);
        theLastOneAndNoneBehindIt(check);
        eachApplicationHasItsOwn(check);
        nothingElseTakesThem(check);
        allItsTasksAreAlive(check);
        noneLeftCleansAndEnds(check);
        aFailureTakesItDown(check);
        check.end();
    }

    /** "if it has RESTARTS left", "otherwise it has ENDED, and the REACTION is 3": 0 of 0 */
    private static void noneFromTheBeginning(Check check) {
        ProtectHooks x = Systems.of(0, 2, 4);
        check.due("fault(1, 1)", x.fault(1, 1), 3);
        check.dueLine(x, 0, 1, 1, 0, 3);
        check.due("state(1)", x.state(1), 1);
        check.due("fault(2, 1)", x.fault(2, 1), -3);
        check.due("fault(1, 1)", x.fault(1, 1), -3);
    }

    /** "there is one less": 10 of 10, then none */
    private static void theLastOneAndNoneBehindIt(Check check) {
        ProtectHooks x = Systems.of(10, 2, 4);
        for (int i = 0; i < 10; i++) {
            check.due("fault, restart " + (i + 1), x.fault(i % 2 + 1, 1), 4);
            check.due("state(1)", x.state(1), 0);
        }
        check.due("fault(1, 1), none left", x.fault(1, 1), 3);
        check.dueLine(x, 9, 2, 1, 0, 4);
        check.dueLine(x, 10, 1, 1, 0, 3);
        check.due("state(1)", x.state(1), 1);
    }

    /** "each", "has so many RESTARTS left" */
    private static void eachApplicationHasItsOwn(Check check) {
        ProtectHooks x = Systems.of(1, 1, 4);
        x.application(2);
        x.task(2, 0);
        check.due("fault(1, 1)", x.fault(1, 1), 4);
        check.due("fault(1, 1)", x.fault(1, 1), 3);
        check.due("fault(2, 1)", x.fault(2, 1), 4);
        check.due("fault(2, 1)", x.fault(2, 1), 4);
        check.due("fault(2, 1)", x.fault(2, 1), 3);
    }

    private static void nothingElseTakesThem(Check check) {
        ProtectHooks x = Systems.of(1, 3, 1);
        x.fault(1, 1);
        x.hook(0, 2, false);
        x.fault(1, 1);
        x.hook(0, 0, false);
        x.fault(2, 1);
        x.hook(0, 4, false);
        check.due("fault(3, 1)", x.fault(3, 1), 4);
        check.due("fault(3, 1)", x.fault(3, 1), 3);
    }

    /** "and all its tasks are ALIVE": those that were not before it, too */
    private static void allItsTasksAreAlive(Check check) {
        ProtectHooks x = Systems.of(1, 59);
        x.application(1);
        x.task(2, 0);
        for (int task = 1; task <= 58; task++) {
            x.fault(task, 1);
        }
        x.fault(60, 1);
        x.hook(2, 4, false);
        check.due("fault(59, 1)", x.fault(59, 1), 4);
        x.hook(2, 1, false);
        for (int task = 1; task <= 59; task++) {
            check.due("fault(" + task + ", 1), alive", x.fault(task, 1), 1);
        }
        check.due("fault(60, 1), of another application", x.fault(60, 1), -3);
    }

    /** "its ALIVE tasks are ENDED likewise; then": with none left as well */
    private static void noneLeftCleansAndEnds(Check check) {
        ProtectHooks x = Systems.of(0, 2, 4);
        x.holds(2, 1, 1);
        check.due("fault(1, 1), none left", x.fault(1, 1), 3);
        check.due("cleaned(-1, 0)", x.cleaned(-1, 0), 1);
        check.dueCleaned(x, 0, 2, 1, 1);
        check.due("holds(2, 1, 1), not alive", x.holds(2, 1, 1), -3);
        check.due("task(1, 0), ended", x.task(1, 0), -3);
    }

    /** "the REACTION as it is at the end": 5, whether there are restarts left or not */
    private static void aFailureTakesItDown(Check check) {
        int[] restarts = {0, 1, 10};
        for (int left : restarts) {
            ProtectHooks x = Systems.of(left, 1, 4);
            x.holds(1, 3, 1);
            x.holds(1, 3, 2);
            check.due("fault(1, 1), " + left + " left", x.fault(1, 1), 5);
            check.due("state(1)", x.state(1), 2);
            check.due("fault(1, 1), down", x.fault(1, 1), -3);
        }
    }
}

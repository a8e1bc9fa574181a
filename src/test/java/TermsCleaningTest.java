/**
 * "To END a task: it is not ALIVE; all THINGS that it holds are CLEANED: by
 * kinds, of one kind by numbers: each is free then, and noted."
 *
 * "A THING of kind 3 FAILS when it is CLEANED, if another one of that kind has
 * been CLEANED within the same FAULT before: then the system is shut down at
 * once (that THING is free and noted; nothing is CLEANED behind it)."
 *
 * "To END an application: it has ENDED, and all its tasks that are ALIVE are
 * ENDED, by numbers."
 */
public final class TermsCleaningTest {
    public static void main(String[] args) {
        Check check = new Check();
        nothingIsHeld(check);
        byKindsThenNumbers(check);
        allThingsButOneOfKindThree(check);
        tasksByNumbers(check);
        onlyTasksThatAreAlive(check);
        onlyItsOwnThings(check);
        oneOfKindThreeIsFine(check);
        twoOfOtherKindsAreFine(check);
        theSecondOfOneTaskFails(check);
        theSecondOfTwoTasksFails(check);
        theSecondAsTheLastOfAllFails(check);
        nothingIsCleanedBehindIt(check);
        itIsFreeAndNotedOnce(check);
        notWithinAnotherFault(check);
        faultsOfAllSourcesCountApart(check);
        check.end();
    }

    /** "all THINGS that it holds": none */
    private static void nothingIsHeld(Check check) {
        for (int does = 2; does <= 4; does++) {
            ProtectHooks x = Systems.of(1, 3, does);
            check.due("fault(2, 1), nothing is held", x.fault(2, 1), does);
            check.due("cleaned(-1, 0), nothing was held", x.cleaned(-1, 0), 0);
        }
    }

    /** "by kinds, of one kind by numbers" */
    private static void byKindsThenNumbers(Check check) {
        ProtectHooks x = Systems.of(0, 2);
        x.holds(1, 3, 9);
        x.holds(1, 1, 32);
        x.holds(1, 1, 1);
        x.holds(2, 1, 2);
        x.holds(1, 2, 5);
        x.holds(1, 0, 32);
        x.fault(1, 1);
        check.due("cleaned(-1, 0)", x.cleaned(-1, 0), 5);
        check.dueCleaned(x, 0, 1, 0, 32);
        check.dueCleaned(x, 1, 1, 1, 1);
        check.dueCleaned(x, 2, 1, 1, 32);
        check.dueCleaned(x, 3, 1, 2, 5);
        check.dueCleaned(x, 4, 1, 3, 9);
    }

    /** "all THINGS that it holds", the most that can be without one that fails */
    private static void allThingsButOneOfKindThree(Check check) {
        ProtectHooks x = Systems.of(0, 1);
        x.holds(1, 3, 32);
        for (int thing = 95; thing >= 0; thing--) {
            x.holds(1, thing / 32, thing % 32 + 1);
        }
        check.due("fault(1, 1)", x.fault(1, 1), 2);
        check.due("cleaned(-1, 0)", x.cleaned(-1, 0), 97);
        for (int thing = 0; thing < 96; thing++) {
            check.dueCleaned(x, thing, 1, thing / 32, thing % 32 + 1);
        }
        check.dueCleaned(x, 96, 1, 3, 32);
    }

    /** "all its tasks that are ALIVE are ENDED, by numbers", "its ALIVE tasks are ENDED likewise" */
    private static void tasksByNumbers(Check check) {
        for (int does = 3; does <= 4; does++) {
            ProtectHooks x = Systems.of(1, 3, does);
            x.holds(3, 0, 1);
            x.holds(2, 0, 2);
            x.holds(1, 0, 3);
            x.holds(2, 3, 3);
            check.due("fault(3, 1)", x.fault(3, 1), does);
            check.due("cleaned(-1, 0)", x.cleaned(-1, 0), 4);
            check.dueCleaned(x, 0, 1, 0, 3);
            check.dueCleaned(x, 1, 2, 0, 2);
            check.dueCleaned(x, 2, 2, 3, 3);
            check.dueCleaned(x, 3, 3, 0, 1);
        }
    }

    /** "all its tasks that are ALIVE" */
    private static void onlyTasksThatAreAlive(Check check) {
        ProtectHooks x = Systems.of(0, 3);
        x.holds(1, 0, 1);
        x.holds(3, 0, 2);
        x.fault(1, 1);
        x.hook(0, 3, false);
        check.due("fault(2, 1)", x.fault(2, 1), 3);
        check.due("cleaned(-1, 0)", x.cleaned(-1, 0), 2);
        check.dueCleaned(x, 0, 1, 0, 1);
        check.dueCleaned(x, 1, 3, 0, 2);
    }

    /** "all THINGS that it holds", "all its tasks" */
    private static void onlyItsOwnThings(Check check) {
        for (int does = 2; does <= 4; does++) {
            ProtectHooks x = Systems.of(1, 1, does);
            x.application(1);
            x.task(2, 0);
            x.holds(1, 3, 1);
            x.holds(2, 3, 2);
            check.due("fault(1, 1)", x.fault(1, 1), does);
            check.due("cleaned(-1, 0)", x.cleaned(-1, 0), 1);
            check.due("holds(2, 3, 3), it holds still", x.holds(2, 3, 3), 2);
        }
    }

    /** "if another one of that kind has been CLEANED": the first one does not fail */
    private static void oneOfKindThreeIsFine(Check check) {
        int[] numbers = {1, 32};
        for (int number : numbers) {
            ProtectHooks x = Systems.of(0, 1);
            x.holds(1, 2, number);
            x.holds(1, 3, number);
            check.due("fault(1, 1)", x.fault(1, 1), 2);
            check.due("state(1)", x.state(1), 0);
            check.due("cleaned(-1, 0)", x.cleaned(-1, 0), 2);
        }
    }

    /** "A THING of kind 3 FAILS" */
    private static void twoOfOtherKindsAreFine(Check check) {
        for (int kind = 0; kind <= 2; kind++) {
            ProtectHooks x = Systems.of(0, 1);
            x.holds(1, kind, 1);
            x.holds(1, kind, 32);
            check.due("fault(1, 1), two of kind " + kind, x.fault(1, 1), 2);
            check.due("state(1)", x.state(1), 0);
        }
    }

    /** "FAILS when it is CLEANED, if another one of that kind has been CLEANED within the same FAULT before" */
    private static void theSecondOfOneTaskFails(Check check) {
        for (int does = 2; does <= 4; does++) {
            ProtectHooks x = Systems.of(5, 2, does);
            x.holds(1, 3, 1);
            x.holds(1, 3, 32);
            x.holds(1, 3, 2);
            x.holds(2, 0, 1);
            check.due("fault(1, 1), a thing fails", x.fault(1, 1), 5);
            check.dueLine(x, 0, 1, 1, 0, 5);
            check.due("cleaned(-1, 0)", x.cleaned(-1, 0), 2);
            check.dueCleaned(x, 0, 1, 3, 1);
            check.dueCleaned(x, 1, 1, 3, 2);
            check.due("state(1)", x.state(1), 2);
            check.due("fault(2, 1)", x.fault(2, 1), -3);
        }
    }

    /** "within the same FAULT": of whichever task */
    private static void theSecondOfTwoTasksFails(Check check) {
        for (int does = 3; does <= 4; does++) {
            for (int restarts = 0; restarts <= 1; restarts++) {
                ProtectHooks x = Systems.of(restarts, 60, does);
                x.holds(60, 3, 1);
                x.holds(1, 3, 32);
                check.due("fault(30, 1), a thing fails", x.fault(30, 1), 5);
                check.dueLine(x, 0, 30, 1, 0, 5);
                check.due("cleaned(-1, 0)", x.cleaned(-1, 0), 2);
                check.dueCleaned(x, 0, 1, 3, 32);
                check.dueCleaned(x, 1, 60, 3, 1);
                check.due("state(1)", x.state(1), 2);
            }
        }
    }

    /** "then the system is shut down at once": also when there is nothing behind it */
    private static void theSecondAsTheLastOfAllFails(Check check) {
        ProtectHooks x = Systems.of(0, 1);
        x.holds(1, 3, 31);
        x.holds(1, 3, 32);
        check.due("fault(1, 1)", x.fault(1, 1), 5);
        check.dueLine(x, 0, 1, 1, 3, 5);
        check.due("cleaned(-1, 0)", x.cleaned(-1, 0), 2);
        check.due("state(1)", x.state(1), 2);
    }

    /** "nothing is CLEANED behind it" */
    private static void nothingIsCleanedBehindIt(Check check) {
        ProtectHooks x = Systems.of(3, 3, 4);
        x.holds(1, 3, 7);
        x.holds(2, 3, 8);
        x.holds(2, 3, 9);
        x.holds(2, 2, 9);
        x.holds(3, 0, 1);
        check.due("fault(3, 1)", x.fault(3, 1), 5);
        check.due("cleaned(-1, 0)", x.cleaned(-1, 0), 3);
        check.dueCleaned(x, 0, 1, 3, 7);
        check.dueCleaned(x, 1, 2, 2, 9);
        check.dueCleaned(x, 2, 2, 3, 8);
        check.due("cleaned(3, 0)", x.cleaned(3, 0), -1);
    }

    /** "that THING is free and noted" */
    private static void itIsFreeAndNotedOnce(Check check) {
        ProtectHooks x = Systems.of(3, 1);
        for (int number = 1; number <= 32; number++) {
            x.holds(1, 3, number);
        }
        check.due("fault(1, 1)", x.fault(1, 1), 5);
        check.due("cleaned(-1, 0)", x.cleaned(-1, 0), 2);
        check.dueCleaned(x, 0, 1, 3, 1);
        check.dueCleaned(x, 1, 1, 3, 2);
        check.due("cleaned(2, 0)", x.cleaned(2, 0), -1);
    }

    /** "within the same FAULT": not of another one */
    private static void notWithinAnotherFault(Check check) {
        for (int does = 2; does <= 4; does++) {
            ProtectHooks x = Systems.of(5, 1, does);
            x.application(5);
            x.task(2, 0);
            x.holds(1, 3, 1);
            x.holds(2, 3, 2);
            check.due("fault(1, 1)", x.fault(1, 1), does);
            check.due("fault(2, 1)", x.fault(2, 1), does);
            check.due("state(1)", x.state(1), does == 3 ? 1 : 0);
            check.due("cleaned(-1, 0)", x.cleaned(-1, 0), 2);
        }
        ProtectHooks same = Systems.of(2, 1, 4);
        for (int i = 0; i < 2; i++) {
            same.holds(1, 3, 5);
            check.due("fault(1, 1), the same thing again", same.fault(1, 1), 4);
        }
    }

    /** "within the same FAULT": those of arrivals and accesses are faults of their own */
    private static void faultsOfAllSourcesCountApart(Check check) {
        ProtectHooks x = new ProtectHooks();
        x.application(0);
        x.task(1, 0);
        x.task(1, 0);
        x.task(1, 10);
        for (int task = 1; task <= 3; task++) {
            x.holds(task, 3, task);
        }
        check.due("fault(1, 1)", x.fault(1, 1), 2);
        check.due("access(2, 0)", x.access(2, 0), -2);
        x.arrival(3, 0);
        x.arrival(3, 0);
        check.due("arrival(3, 0)", x.arrival(3, 0), -2);
        check.due("state(1)", x.state(1), 0);
        check.due("cleaned(-1, 0)", x.cleaned(-1, 0), 3);
    }
}

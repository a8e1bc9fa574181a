/** What there is: applications, tasks, things, and the system that is up or down. */
public final class TermsNumbersTest {
    private static final int APPLICATIONS = 16;
    private static final int TASKS = 60;

    public static void main(String[] args) {
        Check check = new Check();
        applications(check);
        applicationsKeepTheirNumbers(check);
        restartsOfEach(check);
        tasksOfTheirApplications(check);
        tasksWithTheirSpacings(check);
        tasksAliveOrNot(check);
        tasksKeepTheirNumbers(check);
        things(check);
        thingsChangeHands(check);
        upThenDown(check);
        check.end();
    }

    private static int ownerOf(int task) {
        return (task * 7) % APPLICATIONS + 1;
    }

    /** All applications, with number % 11 restarts, and all tasks, with ten times their number as spacing. */
    private static ProtectHooks wide() {
        ProtectHooks x = new ProtectHooks();
        for (int application = 1; application <= APPLICATIONS; application++) {
            x.application(application % 11);
            x.region(application, 1000L * application, 1);
        }
        for (int task = 1; task <= TASKS; task++) {
            x.task(ownerOf(task), 10L * task);
        }
        return x;
    }

    /**
     * "APPLICATIONS are numbered from 1 on, at most 16: each RUNS (0), has
     * ENDED (1), and has so many RESTARTS left."
     */
    private static void applications(Check check) {
        ProtectHooks x = new ProtectHooks();
        for (int number = 1; number <= APPLICATIONS; number++) {
            check.due("state(" + number + "), not there yet", x.state(number), -1);
            check.due("application(3)", x.application(3), number);
            check.due("state(" + number + ")", x.state(number), 0);
            check.due("task(" + number + ", 0)", x.task(number, 0), number);
        }
        check.due("application(3), the 17th", x.application(3), -4);
        check.due("state(0)", x.state(0), -1);
        check.due("state(17)", x.state(17), -1);
        x.hook(1, 3, false);
        x.fault(16, 1);
        x.fault(1, 1);
        for (int number = 1; number <= APPLICATIONS; number++) {
            check.due("state(" + number + ")", x.state(number), number == 1 || number == 16 ? 1 : 0);
        }
    }

    /** "numbered from 1 on": the number of one that has ended is not given again */
    private static void applicationsKeepTheirNumbers(Check check) {
        ProtectHooks x = Systems.of(0, 1, 3);
        check.due("application(0)", x.application(0), 2);
        check.due("fault(1, 1)", x.fault(1, 1), 3);
        check.due("application(0), another has ended", x.application(0), 3);
        check.due("state(1)", x.state(1), 1);
        check.due("state(3)", x.state(3), 0);
    }

    /** "and has so many RESTARTS left": each its own, in turns with the others */
    private static void restartsOfEach(Check check) {
        ProtectHooks x = wide();
        x.hook(2, 4, false);
        for (int round = 1; round <= 11; round++) {
            for (int task = 1; task <= APPLICATIONS; task++) {
                int restarts = ownerOf(task) % 11;
                int want = round <= restarts ? 4 : round == restarts + 1 ? 3 : -3;
                check.due("fault(" + task + ", 1), round " + round, x.fault(task, 1), want);
            }
        }
    }

    /**
     * "TASKS are numbered from 1 on, at most 60, each of an application, with a
     * SPACING; a task is ALIVE (at first), or not."
     */
    private static void tasksOfTheirApplications(Check check) {
        ProtectHooks x = wide();
        check.due("task(1, 0), the 61st", x.task(1, 0), -4);
        check.due("trusted(0, 1000)", x.trusted(0, 1000), -1);
        check.due("trusted(61, 1000)", x.trusted(61, 1000), -1);
        for (int task = 1; task <= TASKS; task++) {
            long own = 1000L * ownerOf(task);
            long other = 1000L * (ownerOf(task) % APPLICATIONS + 1);
            check.due("trusted(" + task + ", " + own + ")", x.trusted(task, own), 1);
            check.due("trusted(" + task + ", " + other + ")", x.trusted(task, other), 0);
        }
    }

    /** "with a SPACING": each with its own */
    private static void tasksWithTheirSpacings(Check check) {
        ProtectHooks x = wide();
        for (int task = 1; task <= TASKS; task++) {
            check.due("arrival(" + task + ", 5)", x.arrival(task, 5), 1);
        }
        for (int task = TASKS; task >= 1; task--) {
            check.due("arrival(" + task + "), one too early", x.arrival(task, 4 + 10L * task), 0);
            check.due("arrival(" + task + "), not too early", x.arrival(task, 5 + 10L * task), 1);
        }
    }

    /** "a task is ALIVE (at first), or not" */
    private static void tasksAliveOrNot(Check check) {
        ProtectHooks x = wide();
        for (int task = 1; task <= TASKS; task++) {
            check.due("access(" + task + "), alive", x.access(task, 1000L * ownerOf(task)), 1);
        }
        for (int task = 1; task <= TASKS; task += 2) {
            check.due("fault(" + task + ", 1)", x.fault(task, 1), 2);
        }
        for (int task = 1; task <= TASKS; task++) {
            int want = task % 2 == 0 ? 1 : -3000;
            check.due("access(" + task + ")", x.access(task, 1000L * ownerOf(task)), want);
        }
    }

    /** "numbered from 1 on": the number of one that is not alive is not given again */
    private static void tasksKeepTheirNumbers(Check check) {
        ProtectHooks x = Systems.of(0, 2);
        check.due("fault(1, 1)", x.fault(1, 1), 2);
        check.due("task(1, 0), another is not alive", x.task(1, 0), 3);
        check.due("holds(1, 0, 1)", x.holds(1, 0, 1), -3);
        check.due("holds(3, 0, 1)", x.holds(3, 0, 1), 1);
    }

    /**
     * "THINGS are of a kind 0 .. 3 with a number 1 .. 32; each is held by one
     * task at most."
     */
    private static void things(Check check) {
        ProtectHooks x = Systems.of(0, 60);
        for (int thing = 0; thing < 128; thing++) {
            int holder = thing % TASKS + 1;
            int another = holder % TASKS + 1;
            int kind = thing / 32;
            int number = thing % 32 + 1;
            String what = ", " + kind + ", " + number + ")";
            check.due("holds(" + holder + what, x.holds(holder, kind, number), thing / TASKS + 1);
            check.due("holds(" + another + what + ", held", x.holds(another, kind, number), -3);
            check.due("holds(" + holder + what + ", held", x.holds(holder, kind, number), -3);
        }
        check.due("holds(1, 4, 1)", x.holds(1, 4, 1), -2);
        check.due("holds(1, -1, 1)", x.holds(1, -1, 1), -2);
        check.due("holds(1, 0, 0)", x.holds(1, 0, 0), -2);
        check.due("holds(1, 0, 33)", x.holds(1, 0, 33), -2);
    }

    /** "each is held by one task at most": by one after the other */
    private static void thingsChangeHands(Check check) {
        ProtectHooks x = Systems.of(0, 60);
        for (int task = 1; task <= TASKS; task++) {
            check.due("holds(" + task + ", 3, 7)", x.holds(task, 3, 7), 1);
            check.due("fault(" + task + ", 1)", x.fault(task, 1), 2);
        }
        check.due("cleaned(-1, 0)", x.cleaned(-1, 0), TASKS);
        for (int i = 0; i < TASKS; i++) {
            check.dueCleaned(x, i, i + 1, 3, 7);
        }
    }

    /** "The system is UP, or DOWN for good: then there is nothing but what tells." */
    private static void upThenDown(Check check) {
        ProtectHooks x = wide();
        for (int application = 1; application <= APPLICATIONS; application++) {
            check.due("state(" + application + "), up", x.state(application), 0);
        }
        x.hook(0, 5, false);
        check.due("fault(1, 5)", x.fault(1, 5), 5);
        for (int application = 1; application <= APPLICATIONS; application++) {
            check.due("state(" + application + "), down", x.state(application), 2);
            check.due("region(" + application + ", 0, 1), down", x.region(application, 0, 1), -3);
        }
        for (int task = 1; task <= TASKS; task++) {
            check.due("holds(" + task + ", 0, 1), down", x.holds(task, 0, 1), -3);
            check.due("access(" + task + "), down", x.access(task, 1000L * ownerOf(task)), -3000);
            check.due("trusted(" + task + "), down", x.trusted(task, 1000L * ownerOf(task)), 1);
        }
        check.due("hook(0, 0, false), down", x.hook(0, 0, false), -3);
        check.due("state(1), still down", x.state(1), 2);
        check.due("log(-1, 0), down", x.log(-1, 0), 1);
        check.dueLine(x, 0, 1, 5, 0, 5);
    }
}

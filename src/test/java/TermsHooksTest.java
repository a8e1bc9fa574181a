/** Hooks, the faults that go to them, reactions, and the lines of the log. */
public final class TermsHooksTest {
    private static final int DOINGS = 6;
    private static final int SETTINGS = 2 * DOINGS;

    public static void main(String[] args) {
        Check check = new Check();
        atFirst(check);
        eachDoing(check);
        ofTheSystem(check);
        allHooksTogether(check);
        everyKindAlike(check);
        failing(check);
        allPassOn(check);
        reactions(check);
        aLineForEachFault(check);
        noLineWithoutAFault(check);
        check.end();
    }

    /** "each DOES, at first 0", "and may FAIL (at first not)": so for each level alone */
    private static void atFirst(Check check) {
        for (int level = 0; level <= 2; level++) {
            ProtectHooks x = Systems.of(1, 1);
            for (int set = 0; set <= 2; set++) {
                if (set != level) {
                    x.hook(set, 0, false);
                }
            }
            check.due("fault(1, 1), level " + level + " was not set", x.fault(1, 1), 2);
            check.due("log(0, 2)", x.log(0, 2), 3);
        }
    }

    /**
     * "HOOKS of the levels 0 task, 1 application, 2 system; each DOES, at first
     * 0: 0 passes on, 1 ignores, 2 ends the task, 3 ends its application, 4
     * starts it again, 5 shuts down; and may FAIL (at first not)."
     */
    private static void eachDoing(Check check) {
        int[] stateBehind = {0, 0, 0, 1, 0, 2};
        int[] itsAccess = {-3000, 1, -3000, -3000, 1, -3000};
        int[] itsNeighbours = {1, 1, 1, -3000, 1, -3000};
        int[] anothers = {1, 1, 1, 1, 1, -3000};
        for (int level = 0; level <= 2; level++) {
            for (int does = 0; does < DOINGS; does++) {
                String where = "level " + level + " does " + does + ": ";
                ProtectHooks x = Systems.of(1, 2);
                x.application(1);
                x.task(2, 0);
                x.region(1, 0, 1);
                x.region(2, 0, 1);
                check.due(where + "hook", x.hook(level, does, false), 1);
                check.due(where + "fault(1, 1)", x.fault(1, 1), does == 0 ? 2 : does);
                check.due(where + "state(1)", x.state(1), stateBehind[does]);
                check.due(where + "access(1, 0)", x.access(1, 0), itsAccess[does]);
                check.due(where + "access(2, 0)", x.access(2, 0), itsNeighbours[does]);
                check.due(where + "access(3, 0)", x.access(3, 0), anothers[does]);
            }
        }
    }

    /** "HOOKS of the levels": one for each level, whichever task or application has the fault */
    private static void ofTheSystem(Check check) {
        for (int level = 0; level <= 2; level++) {
            ProtectHooks x = Systems.full();
            x.hook(level, 1, false);
            for (int task = 1; task <= 60; task++) {
                check.due("fault(" + task + ", 3)", x.fault(task, 3), 1);
            }
        }
    }

    private static int doesIn(int setting) {
        return setting % DOINGS;
    }

    private static boolean failsIn(int setting) {
        return setting >= DOINGS;
    }

    /**
     * "A FAULT of a task, of a kind 1 .. 5: the hooks are asked, level 0 first,
     * up to the first one that does not pass on.": all that three hooks can be
     */
    private static void allHooksTogether(Check check) {
        for (int first = 0; first < SETTINGS; first++) {
            for (int second = 0; second < SETTINGS; second++) {
                for (int third = 0; third < SETTINGS; third++) {
                    threeHooks(check, first, second, third);
                }
            }
        }
    }

    private static void threeHooks(Check check, int first, int second, int third) {
        ProtectHooks x = Systems.of(1, 2);
        x.hook(2, doesIn(third), failsIn(third));
        x.hook(0, doesIn(first), failsIn(first));
        x.hook(1, doesIn(second), failsIn(second));
        int level = first != 0 ? 0 : second != 0 ? 1 : third != 0 ? 2 : 3;
        int[] settings = {first, second, third, 2};
        int reaction = failsIn(settings[level]) ? 5 : doesIn(settings[level]);
        check.due("fault(2, 1), hooks " + first + " " + second + " " + third, x.fault(2, 1), reaction);
        check.dueLine(x, 0, 2, 1, level, reaction);
        check.due("log(-1, 0)", x.log(-1, 0), 1);
    }

    /** "of a kind 1 .. 5": no kind makes a difference to what is done */
    private static void everyKindAlike(Check check) {
        for (int kind = 1; kind <= 5; kind++) {
            for (int level = 0; level <= 2; level++) {
                for (int does = 1; does < DOINGS; does++) {
                    ProtectHooks x = Systems.of(1, 1);
                    x.hook(level, does, false);
                    check.due("fault(1, " + kind + ")", x.fault(1, kind), does);
                    check.dueLine(x, 0, 1, kind, level, does);
                }
            }
        }
        check.due("fault(1, 0)", Systems.of(1, 1).fault(1, 0), -2);
        check.due("fault(1, 6)", Systems.of(1, 1).fault(1, 6), -2);
    }

    /** "One that FAILS shuts down, whatever it does.": and not one that is not asked */
    private static void failing(Check check) {
        for (int level = 0; level <= 2; level++) {
            for (int does = 0; does < DOINGS; does++) {
                ProtectHooks x = Systems.of(1, 1);
                x.hook(level, does, true);
                check.due("fault(1, 1), level " + level + " fails", x.fault(1, 1), 5);
                check.due("state(1)", x.state(1), 2);
            }
        }
        ProtectHooks x = Systems.of(1, 1, 1);
        x.hook(1, 0, true);
        x.hook(2, 5, true);
        check.due("fault(1, 1), those that fail are not asked", x.fault(1, 1), 1);
        x.hook(1, 0, false);
        x.hook(2, 0, false);
        x.hook(0, 0, false);
        check.due("fault(1, 1), none fails any more", x.fault(1, 1), 2);
    }

    /** "If all pass on, the task is ended." */
    private static void allPassOn(Check check) {
        ProtectHooks x = Systems.of(1, 3);
        x.holds(2, 1, 4);
        check.due("fault(2, 1)", x.fault(2, 1), 2);
        check.dueLine(x, 0, 2, 1, 3, 2);
        check.due("fault(2, 1), not alive", x.fault(2, 1), -3);
        check.due("state(1)", x.state(1), 0);
        check.dueCleaned(x, 0, 2, 1, 4);
        check.due("holds(1, 1, 4)", x.holds(1, 1, 4), 1);
        check.due("holds(3, 1, 5)", x.holds(3, 1, 5), 1);
    }

    /**
     * "The REACTION is 1 ignored, 2 the task is ended, 3 its application, 4 it
     * is started again, 5 the system is shut down.": the same of all that can
     * be a fault
     */
    private static void reactions(Check check) {
        for (int does = 1; does < DOINGS; does++) {
            check.due("fault(1, 1)", spaced(does).fault(1, 1), does);
            check.due("access(1, 0)", spaced(does).access(1, 0), -does);
            ProtectHooks x = spaced(does);
            x.arrival(1, 0);
            x.arrival(1, 0);
            check.due("arrival(1, 0)", x.arrival(1, 0), -does);
        }
    }

    private static ProtectHooks spaced(int does) {
        ProtectHooks x = new ProtectHooks();
        x.application(1);
        x.task(1, 10);
        x.hook(1, does, false);
        return x;
    }

    /**
     * "A LINE of the log is written: the task, the kind, the level that decided
     * (3 if all passed on), the REACTION as it is at the end."
     */
    private static void aLineForEachFault(Check check) {
        ProtectHooks x = Systems.of(1, 4);
        x.fault(4, 5);
        x.hook(2, 1, false);
        x.fault(3, 4);
        x.hook(1, 4, false);
        x.fault(2, 3);
        x.fault(4, 2);
        x.application(9);
        x.task(2, 0);
        x.holds(5, 3, 1);
        x.holds(5, 3, 2);
        x.fault(5, 1);
        check.due("log(-1, 0)", x.log(-1, 0), 5);
        check.dueLine(x, 0, 4, 5, 3, 2);
        check.dueLine(x, 1, 3, 4, 2, 1);
        check.dueLine(x, 2, 2, 3, 1, 4);
        check.dueLine(x, 3, 4, 2, 1, 3);
        check.dueLine(x, 4, 5, 1, 1, 5);
    }

    /** "A LINE of the log is written": for a fault, and for nothing else */
    private static void noLineWithoutAFault(Check check) {
        ProtectHooks x = spaced(1);
        x.region(1, 7, 1);
        x.holds(1, 3, 1);
        x.access(1, 7);
        x.trusted(1, 8);
        x.arrival(1, 0);
        x.arrival(1, 9);
        x.arrival(1, 8);
        x.fault(1, 6);
        x.fault(2, 1);
        x.access(2, 8);
        check.due("log(-1, 0), no fault yet", x.log(-1, 0), 0);
        x.access(1, 8);
        x.arrival(1, 9);
        check.due("log(-1, 0)", x.log(-1, 0), 2);
        check.dueLine(x, 0, 1, 2, 1, 1);
        check.dueLine(x, 1, 1, 4, 1, 1);
    }
}

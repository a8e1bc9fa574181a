/** Tasks that arrive: they came, are delayed, or have a fault. */
public final class TermsArrivalsTest {
    private static final int CAME = 1;
    private static final int DELAYED = 0;
    private static final int IGNORED = -1;
    private static final int SPACING = 10;
    private static final long[] STEPS = {0, 1, SPACING - 1, SPACING, SPACING + 1};
    private static final int LENGTH = 6;

    public static void main(String[] args) {
        Check check = new Check();
        tooEarly(check);
        delayedOnlyWhenTheArrivalBeforeWasNot(check);
        cameThen(check);
        notTooEarlyForgetsTheDelay(check);
        otherCallsAreNoArrivals(check);
        refusedOnesAreNoArrivals(check);
        eachTaskForItself(check);
        throughAnEndAndAStart(check);
        everyRowOfSteps(check);
        check.end();
    }

    private static ProtectHooks spaced(int does) {
        ProtectHooks x = new ProtectHooks();
        x.application(10);
        x.task(1, SPACING);
        x.task(1, SPACING);
        x.hook(0, does, false);
        return x;
    }

    private static void dueArrivals(Check check, ProtectHooks x, long[] times, int[] answers) {
        for (int i = 0; i < times.length; i++) {
            check.due("arrival(1, " + times[i] + "), the " + (i + 1) + ".", x.arrival(1, times[i]), answers[i]);
        }
    }

    /**
     * "ARRIVALS: a task that arrives less than its SPACING after the time at
     * which it came last is too EARLY: it is DELAYED, once; if it was DELAYED at
     * the arrival before, that is a FAULT of kind 4."
     */
    private static void tooEarly(Check check) {
        ProtectHooks x = spaced(1);
        dueArrivals(check, x,
            new long[] {100, 110, 119, 119, 120, 129, 129},
            new int[] {CAME, CAME, DELAYED, IGNORED, CAME, DELAYED, IGNORED});
        check.due("log(-1, 0)", x.log(-1, 0), 2);
        check.dueLine(x, 0, 1, 4, 0, 1);
        check.dueLine(x, 1, 1, 4, 0, 1);
    }

    /** "if it was DELAYED at the arrival before": behind a fault it was not */
    private static void delayedOnlyWhenTheArrivalBeforeWasNot(Check check) {
        dueArrivals(check, spaced(1),
            new long[] {0, 1, 2, 3, 4, 5, 6, 10},
            new int[] {CAME, DELAYED, IGNORED, DELAYED, IGNORED, DELAYED, IGNORED, CAME});
    }

    /** "One that is not too early CAME then.": a delay or a fault is no coming */
    private static void cameThen(Check check) {
        dueArrivals(check, spaced(1),
            new long[] {5, 14, 15, 24, 25, 26, 27, 35},
            new int[] {CAME, DELAYED, CAME, DELAYED, CAME, DELAYED, IGNORED, CAME});
        dueArrivals(check, spaced(1),
            new long[] {0, 25, 34, 35},
            new int[] {CAME, CAME, DELAYED, CAME});
    }

    /** "at the arrival before": not at one still before it */
    private static void notTooEarlyForgetsTheDelay(Check check) {
        ProtectHooks x = spaced(2);
        dueArrivals(check, x,
            new long[] {0, 9, 10, 11, 20, 29, 30},
            new int[] {CAME, DELAYED, CAME, DELAYED, CAME, DELAYED, CAME});
        check.due("log(-1, 0)", x.log(-1, 0), 0);
    }

    /** "at the arrival before": what else the task does is no arrival */
    private static void otherCallsAreNoArrivals(Check check) {
        ProtectHooks x = spaced(1);
        x.arrival(1, 0);
        check.due("fault(1, 4), a fault of that kind", x.fault(1, 4), 1);
        check.due("arrival(1, 1)", x.arrival(1, 1), DELAYED);
        check.due("fault(1, 4)", x.fault(1, 4), 1);
        check.due("access(1, 0)", x.access(1, 0), -1);
        check.due("holds(1, 0, 1)", x.holds(1, 0, 1), 1);
        check.due("arrival(1, 2), delayed before", x.arrival(1, 2), IGNORED);
        check.due("access(1, 0)", x.access(1, 0), -1);
        check.due("arrival(1, 10)", x.arrival(1, 10), CAME);
    }

    /** "REFUSALS change nothing": a time that is refused is not "the arrival before" */
    private static void refusedOnesAreNoArrivals(Check check) {
        ProtectHooks x = spaced(1);
        x.arrival(1, 20);
        check.due("arrival(1, 29)", x.arrival(1, 29), DELAYED);
        check.due("arrival(1, 28)", x.arrival(1, 28), -2000);
        check.due("arrival(1, -1)", x.arrival(1, -1), -2000);
        check.due("arrival(1, 29), delayed before", x.arrival(1, 29), IGNORED);
        check.due("arrival(1, 28)", x.arrival(1, 28), -2000);
        check.due("arrival(1, 29), not delayed before", x.arrival(1, 29), DELAYED);
        check.due("arrival(1, 30)", x.arrival(1, 30), CAME);
    }

    /** "its SPACING", "the time at which it came last" */
    private static void eachTaskForItself(Check check) {
        ProtectHooks x = spaced(1);
        check.due("arrival(1, 50)", x.arrival(1, 50), CAME);
        check.due("arrival(2, 45)", x.arrival(2, 45), CAME);
        check.due("arrival(1, 54)", x.arrival(1, 54), DELAYED);
        check.due("arrival(2, 54)", x.arrival(2, 54), DELAYED);
        check.due("arrival(2, 55)", x.arrival(2, 55), CAME);
        check.due("arrival(1, 55)", x.arrival(1, 55), IGNORED);
        check.due("log(-1, 0)", x.log(-1, 0), 1);
    }

    /** "all its tasks are ALIVE": that is all that a start again changes of a task */
    private static void throughAnEndAndAStart(Check check) {
        ProtectHooks x = spaced(2);
        x.arrival(1, 0);
        x.arrival(1, 1);
        check.due("fault(1, 1)", x.fault(1, 1), 2);
        check.due("arrival(1, 2), not alive", x.arrival(1, 2), -3000);
        check.due("arrival(1, 0), not alive", x.arrival(1, 0), -2000);
        x.hook(0, 4, false);
        check.due("fault(2, 1)", x.fault(2, 1), 4);
        check.due("arrival(1, 2), delayed before", x.arrival(1, 2), -4);
        check.due("arrival(1, 9), a fault before", x.arrival(1, 9), DELAYED);
        check.due("arrival(1, 10)", x.arrival(1, 10), CAME);
        check.due("arrival(2, 0), its first", x.arrival(2, 0), CAME);
    }

    /** All rows of so many arrivals, one step after the other, compared with the plain model. */
    private static void everyRowOfSteps(Check check) {
        int rows = 1;
        for (int i = 0; i < LENGTH; i++) {
            rows *= STEPS.length;
        }
        for (int row = 0; row < rows; row++) {
            ProtectHooks x = spaced(row % 2 == 0 ? 1 : 4);
            PlainModel model = modelOf(row % 2 == 0 ? 1 : 4);
            long t = 0;
            int rest = row;
            for (int i = 0; i < LENGTH; i++) {
                t += STEPS[rest % STEPS.length];
                rest /= STEPS.length;
                check.due("arrival(1, " + t + ") of row " + row, x.arrival(1, t), model.arrival(1, t));
            }
        }
    }

    private static PlainModel modelOf(int does) {
        PlainModel model = new PlainModel();
        model.application(10);
        model.task(1, SPACING);
        model.task(1, SPACING);
        model.hook(0, does, false);
        return model;
    }
}

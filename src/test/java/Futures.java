import java.util.ArrayList;
import java.util.List;
import java.util.function.Function;

/**
 * What can come behind a call, and the answers to it. Taken together they show
 * every part of a system's state, also what no call tells by itself. Each has
 * less than 290 calls, so that a full system stays within its 512.
 */
final class Futures {
    static final List<Function<ProtectHooks, List<Integer>>> ALL = List.of(
        Futures::told, Futures::grown, Futures::held, Futures::arrived, Futures::arrivedAtOnce, Futures::arrivedEarly,
        Futures::arrivedAfterAStart, x -> faulted(x, 0), x -> faulted(x, 1), x -> faulted(x, 2), Futures::endedOneByOne, Futures::startedAgain);

    private static final int SOME_TASKS = 5;
    private static final long[] ADDRESSES = {-1, 0, 1, 99, 100, 109, 110, 1L << 40, 1L << 41};

    private Futures() {
    }

    private static List<Integer> told(ProtectHooks x) {
        List<Integer> answers = new ArrayList<>();
        for (int application = 0; application <= 17; application++) {
            answers.add(x.state(application));
        }
        for (int task = 0; task <= SOME_TASKS; task++) {
            for (long address : ADDRESSES) {
                answers.add(x.trusted(task, address));
            }
        }
        answers.add(x.trusted(60, 0));
        addCleaned(answers, x);
        addLog(answers, x);
        return answers;
    }

    private static void addCleaned(List<Integer> answers, ProtectHooks x) {
        answers.add(x.cleaned(-1, 0));
        for (int i = 0; i < 12; i++) {
            for (int what = 0; what < 3; what++) {
                answers.add(x.cleaned(i, what));
            }
        }
    }

    private static void addLog(List<Integer> answers, ProtectHooks x) {
        answers.add(x.log(-1, 0));
        for (int i = 0; i < 10; i++) {
            for (int what = 0; what < 4; what++) {
                answers.add(x.log(i, what));
            }
        }
    }

    private static List<Integer> grown(ProtectHooks x) {
        List<Integer> answers = new ArrayList<>();
        for (int application = 1; application <= 4; application++) {
            for (int region = 0; region < 9; region++) {
                answers.add(x.region(application, region, 1));
            }
        }
        for (int i = 0; i < 17; i++) {
            answers.add(x.application(i % 3));
        }
        for (int i = 0; i < 62; i++) {
            answers.add(x.task(i % 16 + 1, 4));
        }
        return answers;
    }

    private static List<Integer> held(ProtectHooks x) {
        List<Integer> answers = new ArrayList<>();
        for (int kind = 0; kind < 4; kind++) {
            for (int number = 1; number <= 32; number++) {
                answers.add(x.holds(1, kind, number));
                answers.add(x.holds(3, kind, number));
            }
        }
        return answers;
    }

    private static List<Integer> arrived(ProtectHooks x) {
        long[] times = {-1, 0, 49, 50, 99, 104, 105, 106, 109, 110, 111, 120, 999999, 1000000, Long.MAX_VALUE};
        List<Integer> answers = new ArrayList<>();
        for (int task = 1; task <= SOME_TASKS; task++) {
            for (long time : times) {
                answers.add(x.arrival(task, time));
            }
        }
        return answers;
    }

    private static List<Integer> arrivedAtOnce(ProtectHooks x) {
        List<Integer> answers = new ArrayList<>();
        addArrivals(answers, x, 0);
        return answers;
    }

    private static List<Integer> arrivedEarly(ProtectHooks x) {
        List<Integer> answers = new ArrayList<>();
        addArrivals(answers, x, 106);
        addLog(answers, x);
        return answers;
    }

    /** Shows what tasks that are not alive have of their times. */
    private static List<Integer> arrivedAfterAStart(ProtectHooks x) {
        List<Integer> answers = new ArrayList<>();
        answers.add(x.hook(0, 4, false));
        answers.add(x.fault(2, 1));
        answers.add(x.hook(0, 1, false));
        addArrivals(answers, x, 95);
        addArrivals(answers, x, 106);
        return answers;
    }

    private static void addArrivals(List<Integer> answers, ProtectHooks x, long time) {
        for (int task = 1; task <= SOME_TASKS; task++) {
            for (int i = 0; i < 3; i++) {
                answers.add(x.arrival(task, time));
            }
        }
    }

    /** Shows what the hook of a level does, whatever those before it do. */
    private static List<Integer> faulted(ProtectHooks x, int level) {
        List<Integer> answers = new ArrayList<>();
        for (int before = 0; before < level; before++) {
            answers.add(x.hook(before, 0, false));
        }
        for (int task = 1; task <= SOME_TASKS; task++) {
            answers.add(x.fault(task, task));
            answers.add(x.access(task, 1000));
        }
        addLog(answers, x);
        addCleaned(answers, x);
        return answers;
    }

    /** Shows who holds what. */
    private static List<Integer> endedOneByOne(ProtectHooks x) {
        List<Integer> answers = new ArrayList<>();
        answers.add(x.hook(0, 2, false));
        for (int task = 1; task <= SOME_TASKS; task++) {
            answers.add(x.fault(task, 3));
        }
        addCleaned(answers, x);
        return answers;
    }

    /** Shows how many restarts are left. */
    private static List<Integer> startedAgain(ProtectHooks x) {
        List<Integer> answers = new ArrayList<>();
        answers.add(x.hook(0, 4, false));
        for (int i = 0; i < 12; i++) {
            for (int task = 1; task <= SOME_TASKS; task++) {
                answers.add(x.fault(task, 1));
            }
        }
        addCleaned(answers, x);
        return answers;
    }
}

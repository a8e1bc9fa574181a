/**
 * Long mixed runs, always the same ones: every answer is compared with that of
 * PlainModel. A run has 512 calls, as many as an object is used for; most runs
 * keep the last of them for what can be told.
 */
public final class MixedRunsTest {
    private static final int RUNS = 3000;
    private static final int CALLS = 512;
    private static final int CALLS_BEFORE_TELLING = 330;
    private static final int[] EDGES = {
        Integer.MIN_VALUE, -1000, -2, -1, 0, 1, 2, 3, 4, 5, 6, 8, 10, 11, 16, 17, 31, 32, 33, 60, 61, 500,
        Integer.MAX_VALUE
    };
    private static final long[] LONG_EDGES = {
        Long.MIN_VALUE, -1, 0, 1, 10, 999999, 1000000, 1000001, 1L << 32, (1L << 40) - 1, 1L << 40,
        (1L << 40) + 1, 1L << 41, Long.MAX_VALUE
    };

    private final Check check = new Check();
    private long seed;
    private ProtectHooks x;
    private PlainModel model;
    private int calls;
    private long clock;
    private int quietness;
    private int edginess;
    private int mostApplications;
    private int mostTasks;

    private MixedRunsTest() {
    }

    public static void main(String[] args) {
        MixedRunsTest test = new MixedRunsTest();
        for (int run = 0; run < RUNS; run++) {
            test.run(run);
        }
        test.check.end();
    }

    private void run(int number) {
        seed = number * 7919L + 1;
        x = new ProtectHooks();
        model = new PlainModel();
        calls = 0;
        clock = 0;
        // Shutting down ends what a run can show, so most runs see it seldom.
        quietness = number % 4 == 0 ? 0 : 60;
        edginess = number % 5 == 0 ? 10 : 1;
        boolean wide = number % 3 == 0;
        mostApplications = wide ? 17 : 6;
        mostTasks = wide ? 61 : 12;
        if (wide) {
            fillUp("run " + number + " at first: ");
        }
        int doing = number % 7 < 5 ? CALLS_BEFORE_TELLING : CALLS;
        while (calls < doing) {
            step("run " + number + " call " + calls + ": ", next(100));
        }
        tellTheRest("run " + number + " at the end: ");
        check.due("calls of run " + number, calls, CALLS);
    }

    private void due(String call, long got, long want) {
        calls++;
        check.due(call, got, want);
    }

    /** Close to the room's end, which the calls of a run reach seldom by themselves. */
    private void fillUp(String where) {
        for (int i = 0; i < 14; i++) {
            due(where + "application", x.application(i % 11), model.application(i % 11));
        }
        for (int i = 0; i < 56; i++) {
            int application = 1 + next(14);
            due(where + "task", x.task(application, i), model.task(application, i));
        }
    }

    private int next(int bound) {
        seed = seed * 6364136223846793005L + 1442695040888963407L;
        return (int) ((seed >>> 33) % bound);
    }

    private int number(int low, int high) {
        return next(20) < edginess ? EDGES[next(EDGES.length)] : low + next(high - low + 1);
    }

    private long large(long low, int span) {
        return next(20) < edginess ? LONG_EDGES[next(LONG_EDGES.length)] : low + next(span);
    }

    private void step(String where, int choice) {
        if (choice < 4) {
            int restarts = number(0, 4);
            due(where + "application(" + restarts + ")", x.application(restarts), model.application(restarts));
        } else if (choice < 14) {
            int application = number(1, mostApplications);
            long spacing = large(0, 12);
            due(where + "task(" + application + ", " + spacing + ")",
                x.task(application, spacing), model.task(application, spacing));
        } else if (choice < 20) {
            region(where);
        } else if (choice < 50) {
            int task = number(1, mostTasks);
            int kind = number(0, next(3) == 0 ? 3 : 2);
            int what = number(1, 32);
            due(where + "holds(" + task + ", " + kind + ", " + what + ")",
                x.holds(task, kind, what), model.holds(task, kind, what));
        } else if (choice < 60) {
            int task = number(1, mostTasks);
            int kind = number(1, 5);
            due(where + "fault(" + task + ", " + kind + ")", x.fault(task, kind), model.fault(task, kind));
        } else if (choice < 68) {
            hook(where);
        } else {
            stepOfTasks(where, choice);
        }
    }

    private void region(String where) {
        int application = number(1, mostApplications);
        long from = large(0, 50);
        long n = large(1, 10);
        due(where + "region(" + application + ", " + from + ", " + n + ")",
            x.region(application, from, n), model.region(application, from, n));
    }

    private void hook(String where) {
        int level = number(0, 2);
        int does = number(0, next(100) < quietness ? 4 : 5);
        boolean fails = next(10) == 0 && next(100) >= quietness;
        due(where + "hook(" + level + ", " + does + ", " + fails + ")",
            x.hook(level, does, fails), model.hook(level, does, fails));
    }

    private void stepOfTasks(String where, int choice) {
        int task = number(1, mostTasks);
        if (choice < 86) {
            clock += next(3);
            long t = next(60) == 0 ? LONG_EDGES[next(LONG_EDGES.length)] : clock - (next(12) == 0 ? 4 : 0);
            due(where + "arrival(" + task + ", " + t + ")", x.arrival(task, t), model.arrival(task, t));
        } else if (choice < 91) {
            long address = large(0, 60);
            due(where + "access(" + task + ", " + address + ")",
                x.access(task, address), model.access(task, address));
        } else if (choice < 95) {
            long address = large(0, 60);
            due(where + "trusted(" + task + ", " + address + ")",
                x.trusted(task, address), model.trusted(task, address));
        } else {
            tell(where, number(-1, 20), number(0, 4));
        }
    }

    private void tell(String where, int i, int what) {
        int choice = next(5);
        if (choice < 2) {
            due(where + "cleaned(" + i + ", " + what + ")", x.cleaned(i, what), model.cleaned(i, what));
        } else if (choice < 4) {
            due(where + "log(" + i + ", " + what + ")", x.log(i, what), model.log(i, what));
        } else {
            due(where + "state(" + i + ")", x.state(i), model.state(i));
        }
    }

    /** From a line on that differs from run to run: few runs have calls enough left for all lines. */
    private void tellTheRest(String where) {
        int most = Math.max(model.log(-1, 0), model.cleaned(-1, 0)) + 2;
        int i = next(most) - 1;
        while (calls < CALLS) {
            for (int what = 0; what < 4 && calls < CALLS; what++) {
                due(where + "log(" + i + ", " + what + ")", x.log(i, what), model.log(i, what));
                if (calls < CALLS) {
                    due(where + "cleaned(" + i + ", " + what + ")", x.cleaned(i, what), model.cleaned(i, what));
                }
            }
            i = i + 1 < most ? i + 1 : -1;
        }
    }
}

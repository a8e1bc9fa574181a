import java.util.List;
import java.util.function.Function;
import java.util.function.Supplier;
import java.util.function.ToIntFunction;

/** Counts answers that are not as due, and ends a test with exit code 1 if there was one. */
final class Check {
    private int wrong = 0;
    private int asked = 0;

    void due(String call, long got, long want) {
        asked++;
        if (got != want) {
            wrong++;
            System.out.println(call + " answered " + got + ", due is " + want);
        }
    }

    /** The task, kind and number of a thing that was cleaned. */
    void dueCleaned(ProtectHooks x, int i, int task, int kind, int number) {
        due("cleaned(" + i + ", 0)", x.cleaned(i, 0), task);
        due("cleaned(" + i + ", 1)", x.cleaned(i, 1), kind);
        due("cleaned(" + i + ", 2)", x.cleaned(i, 2), number);
    }

    void dueLine(ProtectHooks x, int i, int task, int kind, int level, int reaction) {
        due("log(" + i + ", 0)", x.log(i, 0), task);
        due("log(" + i + ", 1)", x.log(i, 1), kind);
        due("log(" + i + ", 2)", x.log(i, 2), level);
        due("log(" + i + ", 3)", x.log(i, 3), reaction);
    }

    /**
     * A call that is refused: two systems with the same past get the same
     * calls afterwards, but only one was asked, twice, for what is refused.
     */
    void refused(String call, Supplier<ProtectHooks> past, ToIntFunction<ProtectHooks> refusal, int want) {
        for (Function<ProtectHooks, List<Integer>> future : Futures.ALL) {
            ProtectHooks without = past.get();
            ProtectHooks with = past.get();
            due(call, refusal.applyAsInt(with), want);
            due(call + " again", refusal.applyAsInt(with), want);
            dueSame("behind " + call + ": ", future.apply(with), future.apply(without));
        }
    }

    private void dueSame(String where, List<Integer> got, List<Integer> want) {
        due(where + "answers", got.size(), want.size());
        for (int i = 0; i < want.size() && i < got.size(); i++) {
            due(where + "answer " + i, got.get(i), want.get(i));
        }
    }

    void end() {
        if (asked == 0) {
            System.out.println("nothing was asked");
        }
        if (wrong != 0 || asked == 0) {
            System.exit(1);
        }
    }
}

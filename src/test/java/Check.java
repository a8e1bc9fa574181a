/** Counts answers that are not as due, and ends a test with exit code 1 if there was one. */
final class Check {
    private int wrong = 0;
    private int asked = 0;

    void due(String call, long got, long want) {
        asked++;
        if (got != want) {
            wrong++;
            System.out.println(call + " answered " + got + ", due is " + want);
        }
    }

    /** The task, kind and number of a thing that was cleaned. */
    void dueCleaned(ProtectHooks x, int i, int task, int kind, int number) {
        due("cleaned(" + i + ", 0)", x.cleaned(i, 0), task);
        due("cleaned(" + i + ", 1)", x.cleaned(i, 1), kind);
        due("cleaned(" + i + ", 2)", x.cleaned(i, 2), number);
    }

    void dueLine(ProtectHooks x, int i, int task, int kind, int level, int reaction) {
        due("log(" + i + ", 0)", x.log(i, 0), task);
        due("log(" + i + ", 1)", x.log(i, 1), kind);
        due("log(" + i + ", 2)", x.log(i, 2), level);
        due("log(" + i + ", 3)", x.log(i, 3), reaction);
    }

    void end() {
        if (asked == 0) {
            System.out.println("nothing was asked");
        }
        if (wrong != 0 || asked == 0) {
            System.exit(1);
        }
    }
}

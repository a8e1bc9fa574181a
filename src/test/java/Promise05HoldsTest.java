public final class Promise05HoldsTest {
    private static final int LEAST = Integer.MIN_VALUE;
    private static final int MOST = Integer.MAX_VALUE;

    public static void main(String[] args) {
        Check check = new Check();
        cornersOfKindsAndNumbers(check);
        allThingsOfOneTask(check);
        countsOfEachTask(check);
        noSuchTaskIsRefused(check);
        kindOutsideIsRefused(check);
        numberOutsideIsRefused(check);
        heldByOneTaskAtMost(check);
        allAreHeld(check);
        freeAgainAfterTheEnd(check);
        notAliveIsRefused(check);
        downIsRefused(check);
        whichRefusalIsFirst(check);
        check.end();
    }

    /** "THINGS are of a kind 0 .. 3 with a number 1 .. 32" */
    private static void cornersOfKindsAndNumbers(Check check) {
        ProtectHooks x = Systems.of(0, 1);
        check.due("holds(1, 0, 1)", x.holds(1, 0, 1), 1);
        check.due("holds(1, 0, 32)", x.holds(1, 0, 32), 2);
        check.due("holds(1, 1, 1), not the one beside 32", x.holds(1, 1, 1), 3);
        check.due("holds(1, 2, 32)", x.holds(1, 2, 32), 4);
        check.due("holds(1, 3, 1)", x.holds(1, 3, 1), 5);
        check.due("holds(1, 3, 32)", x.holds(1, 3, 32), 6);
    }

    /** "how many it holds": up to all there are */
    private static void allThingsOfOneTask(Check check) {
        ProtectHooks x = Systems.of(0, 60);
        int count = 0;
        for (int kind = 0; kind <= 3; kind++) {
            for (int number = 1; number <= 32; number++) {
                count++;
                check.due("holds(60, " + kind + ", " + number + ")", x.holds(60, kind, number), count);
            }
        }
        check.due("things", count, 128);
        check.due("holds(60, 3, 32), all are held", x.holds(60, 3, 32), -3);
        check.due("holds(1, 0, 1), all are held", x.holds(1, 0, 1), -3);
    }

    /** "how many it holds": only its own */
    private static void countsOfEachTask(Check check) {
        ProtectHooks x = Systems.of(0, 2);
        check.due("holds(1, 0, 1)", x.holds(1, 0, 1), 1);
        check.due("holds(2, 0, 2)", x.holds(2, 0, 2), 1);
        check.due("holds(1, 1, 1)", x.holds(1, 1, 1), 2);
        check.due("holds(2, 2, 9)", x.holds(2, 2, 9), 2);
        check.due("holds(1, 3, 1)", x.holds(1, 3, 1), 3);
    }

    /** "-1 there is no task" */
    private static void noSuchTaskIsRefused(Check check) {
        for (int task : Edges.outside(1, 5)) {
            check.refused("holds(" + task + ", 0, 2)", Systems::small, x -> x.holds(task, 0, 2), -1);
        }
        for (int task : Edges.outside(1, 60)) {
            check.refused("holds(" + task + ", 0, 2), full", Systems::full, x -> x.holds(task, 0, 2), -1);
        }
    }

    /** "-2 no such kind" */
    private static void kindOutsideIsRefused(Check check) {
        for (int kind : Edges.outside(0, 3)) {
            check.refused("holds(1, " + kind + ", 1)", Systems::small, x -> x.holds(1, kind, 1), -2);
            check.refused("holds(2, " + kind + ", 32)", Systems::small, x -> x.holds(2, kind, 32), -2);
        }
    }

    /** "-2 no such", "number" */
    private static void numberOutsideIsRefused(Check check) {
        for (int number : Edges.outside(1, 32)) {
            check.refused("holds(1, 0, " + number + ")", Systems::small, x -> x.holds(1, 0, number), -2);
            check.refused("holds(2, 3, " + number + ")", Systems::small, x -> x.holds(2, 3, number), -2);
        }
        // Would be things 0 .. 127 too, if kind and number were looked at together only.
        check.refused("holds(2, 4, -31)", Systems::small, x -> x.holds(2, 4, -31), -2);
        check.refused("holds(2, -1, 64)", Systems::small, x -> x.holds(2, -1, 64), -2);
        check.refused("holds(2, MIN, MAX)", Systems::small, x -> x.holds(2, LEAST, MOST), -2);
        check.refused("holds(2, MAX, MIN)", Systems::small, x -> x.holds(2, MOST, LEAST), -2);
    }

    /** "each is held by one task at most", "-3, also when it is held" */
    private static void heldByOneTaskAtMost(Check check) {
        check.refused("holds(2, 0, 1), held by task 1", Systems::small, x -> x.holds(2, 0, 1), -3);
        check.refused("holds(1, 0, 1), held by itself", Systems::small, x -> x.holds(1, 0, 1), -3);
        check.refused("holds(2, 3, 32), held by task 1", Systems::small, x -> x.holds(2, 3, 32), -3);
        check.refused("holds(1, 3, 1), held in another application", Systems::small, x -> x.holds(1, 3, 1), -3);
        ProtectHooks x = Systems.small();
        check.due("holds(2, 1, 1), of another kind", x.holds(2, 1, 1), 1);
        check.due("holds(2, 0, 2), of another number", x.holds(2, 0, 2), 2);
    }

    /** "-3, also when it is held" */
    private static void allAreHeld(Check check) {
        check.refused("holds(1, 0, 1), all are held", Systems::full, x -> x.holds(1, 0, 1), -3);
        check.refused("holds(60, 3, 32), all are held", Systems::full, x -> x.holds(60, 3, 32), -3);
    }

    /** "each is free then" */
    private static void freeAgainAfterTheEnd(Check check) {
        ProtectHooks x = Systems.of(1, 2);
        x.holds(1, 0, 1);
        x.holds(1, 3, 32);
        x.fault(1, 1);
        check.due("holds(2, 0, 1)", x.holds(2, 0, 1), 1);
        check.due("holds(2, 3, 32)", x.holds(2, 3, 32), 2);
        x.hook(0, 4, false);
        x.fault(2, 1);
        check.due("holds(1, 0, 3), started again with nothing", x.holds(1, 0, 3), 1);
        check.due("holds(2, 0, 1), started again with nothing", x.holds(2, 0, 1), 1);
    }

    /** "-3, also when", "the task is not ALIVE" */
    private static void notAliveIsRefused(Check check) {
        check.refused("holds(4, 0, 2), not alive", Systems::small, x -> x.holds(4, 0, 2), -3);
        check.refused("holds(4, 0, 5), cleaned", Systems::small, x -> x.holds(4, 0, 5), -3);
        check.refused("holds(5, 0, 2), its application has ended", Systems::ended, x -> x.holds(5, 0, 2), -3);
    }

    /** "-3" */
    private static void downIsRefused(Check check) {
        check.refused("holds(2, 0, 2), down", Systems::smallDown, x -> x.holds(2, 0, 2), -3);
        check.refused("holds(1, 0, 1), down and held", Systems::smallDown, x -> x.holds(1, 0, 1), -3);
    }

    /** "the first that fits" */
    private static void whichRefusalIsFirst(Check check) {
        check.refused("holds(6, 4, 1)", Systems::small, x -> x.holds(6, 4, 1), -1);
        check.refused("holds(0, 0, 1), held", Systems::small, x -> x.holds(0, 0, 1), -1);
        check.refused("holds(4, 4, 1), not alive", Systems::small, x -> x.holds(4, 4, 1), -2);
        check.refused("holds(4, 0, 33), not alive", Systems::small, x -> x.holds(4, 0, 33), -2);
        check.refused("holds(6, 4, 1), down", Systems::smallDown, x -> x.holds(6, 4, 1), -1);
        check.refused("holds(1, 0, 0), down", Systems::smallDown, x -> x.holds(1, 0, 0), -2);
    }
}

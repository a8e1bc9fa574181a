public final class Promise05HoldsTest {
    public static void main(String[] args) {
        Check check = new Check();
        range(check);
        countsOfEachTask(check);
        eachIsHeldByOne(check);
        freeAgainAfterTheEnd(check);
        whichRefusalIsFirst(check);
        check.end();
    }

    private static void range(Check check) {
        ProtectHooks x = Systems.of(0, 1);
        check.due("holds(0, 0, 1)", x.holds(0, 0, 1), -1);
        check.due("holds(2, 0, 1)", x.holds(2, 0, 1), -1);
        check.due("holds(61, 0, 1)", x.holds(61, 0, 1), -1);
        check.due("holds(MIN, 0, 1)", x.holds(Integer.MIN_VALUE, 0, 1), -1);
        check.due("holds(1, -1, 1)", x.holds(1, -1, 1), -2);
        check.due("holds(1, 4, 1)", x.holds(1, 4, 1), -2);
        check.due("holds(1, 0, 0)", x.holds(1, 0, 0), -2);
        check.due("holds(1, 0, 33)", x.holds(1, 0, 33), -2);
        check.due("holds(1, MAX, MIN)", x.holds(1, Integer.MAX_VALUE, Integer.MIN_VALUE), -2);
    }

    private static void countsOfEachTask(Check check) {
        ProtectHooks x = Systems.of(0, 2);
        int count = 0;
        for (int kind = 0; kind < 4; kind++) {
            for (int number = 1; number <= 32; number++) {
                if (kind == 2 && number == 9) {
                    check.due("holds(2, 2, 9)", x.holds(2, kind, number), 1);
                } else {
                    count++;
                    check.due("holds(1, " + kind + ", " + number + ")", x.holds(1, kind, number), count);
                }
            }
        }
    }

    private static void eachIsHeldByOne(Check check) {
        ProtectHooks x = Systems.of(0, 2);
        check.due("holds(1, 0, 32)", x.holds(1, 0, 32), 1);
        check.due("holds(2, 0, 32)", x.holds(2, 0, 32), -3);
        check.due("holds(1, 0, 32) again", x.holds(1, 0, 32), -3);
        check.due("holds(2, 1, 32)", x.holds(2, 1, 32), 1);
        check.due("holds(1, 0, 31)", x.holds(1, 0, 31), 2);
    }

    private static void freeAgainAfterTheEnd(Check check) {
        ProtectHooks x = Systems.of(1, 2);
        x.holds(1, 0, 1);
        x.holds(1, 0, 2);
        x.fault(1, 1);
        check.due("holds(1, 0, 3), not alive", x.holds(1, 0, 3), -3);
        check.due("holds(2, 0, 1)", x.holds(2, 0, 1), 1);
        x.hook(0, 4, false);
        x.fault(2, 1);
        check.due("holds(1, 0, 3), started again", x.holds(1, 0, 3), 1);
    }

    private static void whichRefusalIsFirst(Check check) {
        ProtectHooks x = Systems.down();
        check.due("holds(2, 4, 1), down", x.holds(2, 4, 1), -1);
        check.due("holds(1, 4, 1), down", x.holds(1, 4, 1), -2);
        check.due("holds(1, 0, 1), down", x.holds(1, 0, 1), -3);
    }
}

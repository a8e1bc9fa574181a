public final class Promise12StateTest {
    public static void main(String[] args) {
        Check check = new Check();
        ProtectHooks x = Systems.of(1, 1, 4);
        x.application(0);
        check.due("state(0)", x.state(0), -1);
        check.due("state(3)", x.state(3), -1);
        check.due("state(17)", x.state(17), -1);
        check.due("state(MIN)", x.state(Integer.MIN_VALUE), -1);
        check.due("state(MAX)", x.state(Integer.MAX_VALUE), -1);
        check.due("state(1), it runs", x.state(1), 0);
        x.fault(1, 1);
        check.due("state(1), started again", x.state(1), 0);
        x.fault(1, 1);
        check.due("state(1), ended", x.state(1), 1);
        check.due("state(2), it runs", x.state(2), 0);
        x.task(2, 0);
        x.hook(0, 5, false);
        x.fault(2, 1);
        check.due("state(1), down", x.state(1), 2);
        check.due("state(2), down", x.state(2), 2);
        check.due("state(3), down", x.state(3), -1);
        check.end();
    }
}

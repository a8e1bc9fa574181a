/** The example in README.md, call by call. */
public final class ReadmeTest {
    public static void main(String[] args) {
        Check check = new Check();
        ProtectHooks system = new ProtectHooks();
        int app = system.application(2);
        int task = system.task(app, 10);
        check.due("application(2)", app, 1);
        check.due("task(app, 10)", task, 1);
        check.due("region", system.region(app, 0x1000, 0x100), 1);
        check.due("holds", system.holds(task, 0, 7), 1);
        check.due("hook", system.hook(1, 4, false), 1);
        check.due("arrival at 0", system.arrival(task, 0), 1);
        check.due("arrival at 5", system.arrival(task, 5), 0);
        check.due("access in the region", system.access(task, 0x10ff), 1);
        check.due("access outside", system.access(task, 0x2000), -4);
        check.due("log(0, 3)", system.log(0, 3), 4);
        check.due("cleaned(0, 2)", system.cleaned(0, 2), 7);
        check.due("state(app)", system.state(app), 0);
        check.due("task(9, 10)", system.task(9, 10), -1);
        check.end();
    }
}

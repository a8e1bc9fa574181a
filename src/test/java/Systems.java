/** Systems that several tests begin with. */
final class Systems {
    private Systems() {
    }

    /** Application 1 with so many restarts and so many tasks of spacing 0. */
    static ProtectHooks of(int restarts, int tasks) {
        ProtectHooks x = new ProtectHooks();
        x.application(restarts);
        for (int i = 0; i < tasks; i++) {
            x.task(1, 0);
        }
        return x;
    }

    /** The same, with what the hook of level 0 does. */
    static ProtectHooks of(int restarts, int tasks, int does) {
        ProtectHooks x = of(restarts, tasks);
        x.hook(0, does, false);
        return x;
    }

    /** A system with one application and one task, that is down. */
    static ProtectHooks down() {
        ProtectHooks x = of(10, 1, 5);
        x.fault(1, 1);
        return x;
    }
}

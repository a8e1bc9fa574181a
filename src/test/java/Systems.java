/** Systems that several tests begin with. */
final class Systems {
    private Systems() {
    }

    /** Application 1 with so many restarts and so many tasks of spacing 0. */
    static ProtectHooks of(int restarts, int tasks) {
        ProtectHooks x = new ProtectHooks();
        x.application(restarts);
        for (int i = 0; i < tasks; i++) {
            x.task(1, 0);
        }
        return x;
    }

    /** The same, with what the hook of level 0 does. */
    static ProtectHooks of(int restarts, int tasks, int does) {
        ProtectHooks x = of(restarts, tasks);
        x.hook(0, does, false);
        return x;
    }

    /** A system with one application and one task, that is down. */
    static ProtectHooks down() {
        ProtectHooks x = of(10, 1, 5);
        x.fault(1, 1);
        return x;
    }

    /**
     * Three applications with tasks 1, 2 and 4, task 3, task 5; task 4 came and
     * is not alive, task 1 is delayed, task 5 has not come yet, and the hook of
     * level 2 ignores.
     */
    static ProtectHooks small() {
        ProtectHooks x = new ProtectHooks();
        x.application(2);
        x.application(0);
        x.application(10);
        x.task(1, 10);
        x.task(1, 10);
        x.task(2, 1000000);
        x.task(1, 10);
        x.task(3, 7);
        x.region(1, 100, 10);
        x.region(2, 0, 1);
        x.holds(4, 0, 5);
        x.holds(4, 3, 6);
        x.arrival(4, 90);
        x.fault(4, 1);
        x.holds(1, 0, 1);
        x.holds(1, 3, 32);
        x.holds(3, 3, 1);
        x.holds(3, 2, 17);
        x.hook(2, 1, false);
        x.fault(3, 5);
        x.arrival(1, 100);
        x.arrival(1, 105);
        x.arrival(2, 50);
        x.arrival(3, 0);
        return x;
    }

    /** The small one, after application 3 has ended with its task 5. */
    static ProtectHooks ended() {
        ProtectHooks x = small();
        x.hook(0, 3, false);
        x.fault(5, 2);
        x.hook(0, 0, false);
        return x;
    }

    static ProtectHooks smallDown() {
        ProtectHooks x = small();
        x.hook(0, 5, false);
        x.fault(2, 3);
        return x;
    }

    /**
     * Sixteen applications, sixty tasks, all things held, eight regions of
     * application 1. All of kind 3 are with task 59, so that others can end.
     */
    static ProtectHooks full() {
        ProtectHooks x = new ProtectHooks();
        for (int application = 1; application <= 16; application++) {
            x.application(application % 11);
        }
        for (int task = 1; task <= 60; task++) {
            x.task((task - 1) % 16 + 1, 5);
        }
        for (int region = 0; region < 8; region++) {
            x.region(1, 100L * region, 10);
        }
        for (int thing = 0; thing < 128; thing++) {
            int holder = thing / 32 == 3 ? 59 : thing % 58 + 1;
            x.holds(holder, thing / 32, thing % 32 + 1);
        }
        return x;
    }

    /** The full one, after application 16 has ended. */
    static ProtectHooks fullAndEnded() {
        ProtectHooks x = full();
        x.hook(0, 3, false);
        x.fault(16, 1);
        x.hook(0, 0, false);
        return x;
    }

    static ProtectHooks fullAndDown() {
        ProtectHooks x = full();
        x.hook(0, 0, true);
        x.fault(60, 1);
        return x;
    }
}

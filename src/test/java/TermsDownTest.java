import java.util.List;
import java.util.function.Supplier;

/**
 * "To SHUT DOWN: the system is DOWN, all tasks are not ALIVE, all applications
 * have ENDED (THINGS stay as they are)."
 *
 * However it went down: "then there is nothing but what tells", for good.
 */
public final class TermsDownTest {
    private static final List<Supplier<ProtectHooks>> WAYS = List.of(
        TermsDownTest::byTheFirstHook, TermsDownTest::byTheLastHook, TermsDownTest::byAHookThatFails,
        TermsDownTest::byAThingThatFails, TermsDownTest::byAnAccess, TermsDownTest::byAnArrival);

    public static void main(String[] args) {
        Check check = new Check();
        for (Supplier<ProtectHooks> way : WAYS) {
            nothingIsDone(check, way);
            itStaysDown(check, way);
            itTells(check, way);
        }
        thingsStay(check);
        check.end();
    }

    private static ProtectHooks byTheFirstHook() {
        ProtectHooks x = Systems.small();
        x.hook(0, 5, false);
        x.fault(1, 1);
        return x;
    }

    private static ProtectHooks byTheLastHook() {
        ProtectHooks x = Systems.small();
        x.hook(2, 5, false);
        x.fault(1, 1);
        return x;
    }

    private static ProtectHooks byAHookThatFails() {
        ProtectHooks x = Systems.small();
        x.hook(1, 0, true);
        x.fault(1, 1);
        return x;
    }

    private static ProtectHooks byAThingThatFails() {
        ProtectHooks x = Systems.small();
        x.holds(2, 3, 2);
        x.hook(0, 4, false);
        x.fault(1, 1);
        return x;
    }

    private static ProtectHooks byAnAccess() {
        ProtectHooks x = Systems.small();
        x.hook(1, 5, false);
        x.access(1, 0);
        return x;
    }

    private static ProtectHooks byAnArrival() {
        ProtectHooks x = Systems.small();
        x.hook(1, 5, false);
        x.arrival(1, 106);
        return x;
    }

    /** "-3 not in this state (also everything that does something, when the system is DOWN)" */
    private static void nothingIsDone(Check check, Supplier<ProtectHooks> way) {
        check.refused("application(0), down", way, x -> x.application(0), -3);
        check.refused("task(1, 0), down", way, x -> x.task(1, 0), -3);
        check.refused("region(1, 0, 1), down", way, x -> x.region(1, 0, 1), -3);
        check.refused("holds(2, 1, 1), down", way, x -> x.holds(2, 1, 1), -3);
        check.refused("fault(1, 1), down", way, x -> x.fault(1, 1), -3);
        check.refused("hook(0, 1, false), down", way, x -> x.hook(0, 1, false), -3);
        check.refused("arrival(3, 2000000), down", way, x -> x.arrival(3, 2000000), -3000);
        check.refused("access(1, 100), down", way, x -> x.access(1, 100), -3000);
    }

    /** "DOWN for good" */
    private static void itStaysDown(Check check, Supplier<ProtectHooks> way) {
        ProtectHooks x = way.get();
        for (int i = 0; i < 100; i++) {
            check.due("application(1), down", x.application(1), -3);
            check.due("hook(0, 4, false), down", x.hook(0, 4, false), -3);
            check.due("fault(1, 1), down", x.fault(1, 1), -3);
            check.due("state(1), down", x.state(1), 2);
        }
    }

    /** "then there is nothing but what tells" */
    private static void itTells(Check check, Supplier<ProtectHooks> way) {
        ProtectHooks x = way.get();
        for (int application = 1; application <= 3; application++) {
            check.due("state(" + application + "), down", x.state(application), 2);
        }
        check.due("trusted(1, 100), down", x.trusted(1, 100), 1);
        check.due("trusted(1, 99), down", x.trusted(1, 99), 0);
        check.due("log(-1, 0), down", x.log(-1, 0), 3);
        check.dueLine(x, 1, 3, 5, 2, 1);
        check.due("log(2, 0), down", x.log(2, 0), 1);
        check.due("log(2, 3), down", x.log(2, 3), 5);
        check.dueCleaned(x, 1, 4, 3, 6);
    }

    /** "(THINGS stay as they are)" */
    private static void thingsStay(Check check) {
        for (int level = 0; level <= 2; level++) {
            ProtectHooks x = Systems.full();
            x.hook(level, 5, false);
            check.due("fault(59, 1), level " + level + " shuts down", x.fault(59, 1), 5);
            check.due("cleaned(-1, 0), down", x.cleaned(-1, 0), 0);
            check.due("cleaned(0, 0), down", x.cleaned(0, 0), -1);
            ProtectHooks failing = Systems.full();
            failing.hook(level, 3, true);
            check.due("access(59, -1), level " + level + " fails", failing.access(59, -1), -5);
            check.due("cleaned(-1, 0), down", failing.cleaned(-1, 0), 0);
        }
    }
}

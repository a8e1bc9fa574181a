import java.util.List;
import java.util.function.Supplier;
import java.util.function.ToIntFunction;

/**
 * "REFUSALS change nothing and answer, the first that fits: -1 an unknown
 * number, -2 outside a range, -3 not in this state (also everything that does
 * something, when the system is DOWN), -4 no room."
 *
 * For each call all of its reasons together, then with one reason less after
 * the other, in each system that gives the reasons of the state.
 */
public final class TermsRefusalsTest {
    private static final List<Supplier<ProtectHooks>> ALL = List.of(
        Systems::full, Systems::fullAndEnded, Systems::fullAndDown);
    private static final List<Supplier<ProtectHooks>> DOWN = List.of(
        Systems::fullAndDown, Systems::smallDown);

    private final Check check = new Check();

    private TermsRefusalsTest() {
    }

    public static void main(String[] args) {
        TermsRefusalsTest test = new TermsRefusalsTest();
        test.unknownNumbers();
        test.outsideRanges();
        test.notInThisState();
        test.noRoom();
        test.check.end();
    }

    private void due(String call, List<Supplier<ProtectHooks>> systems, ToIntFunction<ProtectHooks> asked, int want) {
        for (Supplier<ProtectHooks> system : systems) {
            check.refused(call, system, asked, want);
        }
    }

    /** "-1 an unknown number": whatever else there is to refuse */
    private void unknownNumbers() {
        due("task(17, -1)", ALL, x -> x.task(17, -1), -1);
        due("region(17, -1, 0)", ALL, x -> x.region(17, -1, 0), -1);
        due("holds(61, 4, 33)", ALL, x -> x.holds(61, 4, 33), -1);
        due("fault(61, 6)", ALL, x -> x.fault(61, 6), -1);
        due("cleaned(500, 3)", ALL, x -> x.cleaned(500, 3), -1);
        due("hook(3, 6, true)", ALL, x -> x.hook(3, 6, true), -1);
        due("arrival(61, -1)", ALL, x -> x.arrival(61, -1), -1000);
        due("trusted(61, -1)", ALL, x -> x.trusted(61, -1), -1);
        due("access(61, -1)", ALL, x -> x.access(61, -1), -1000);
        due("state(17)", ALL, x -> x.state(17), -1);
        due("log(500, 4)", ALL, x -> x.log(500, 4), -1);
    }

    /** "-2 outside a range": whatever the state is, and whether there is room */
    private void outsideRanges() {
        due("application(11)", ALL, x -> x.application(11), -2);
        due("task(16, -1)", ALL, x -> x.task(16, -1), -2);
        due("region(1, -1, 1)", ALL, x -> x.region(1, -1, 1), -2);
        due("region(1, 0, 0)", ALL, x -> x.region(1, 0, 0), -2);
        due("holds(16, 4, 1)", ALL, x -> x.holds(16, 4, 1), -2);
        due("holds(16, 0, 33)", ALL, x -> x.holds(16, 0, 33), -2);
        due("fault(16, 6)", ALL, x -> x.fault(16, 6), -2);
        due("hook(2, 6, true)", ALL, x -> x.hook(2, 6, true), -2);
        due("arrival(16, -1)", ALL, x -> x.arrival(16, -1), -2000);
        due("log(0, 4)", DOWN, x -> x.log(0, 4), -2);
        check.refused("cleaned(0, 3), down", Systems::smallDown, x -> x.cleaned(0, 3), -2);
    }

    /** "-3 not in this state (also everything that does something, when the system is DOWN)": also without room */
    private void notInThisState() {
        due("application(0)", DOWN, x -> x.application(0), -3);
        due("task(1, 0)", DOWN, x -> x.task(1, 0), -3);
        due("region(1, 0, 1)", DOWN, x -> x.region(1, 0, 1), -3);
        due("holds(5, 0, 1)", DOWN, x -> x.holds(5, 0, 1), -3);
        due("fault(5, 1)", DOWN, x -> x.fault(5, 1), -3);
        due("hook(0, 0, false)", DOWN, x -> x.hook(0, 0, false), -3);
        due("arrival(5, 500)", DOWN, x -> x.arrival(5, 500), -3000);
        due("access(1, 100)", DOWN, x -> x.access(1, 100), -3000);
        List<Supplier<ProtectHooks>> ended = List.of(Systems::fullAndEnded);
        due("task(16, 0)", ended, x -> x.task(16, 0), -3);
        due("holds(16, 0, 16)", ended, x -> x.holds(16, 0, 16), -3);
        due("fault(16, 1)", ended, x -> x.fault(16, 1), -3);
        due("arrival(16, 0)", ended, x -> x.arrival(16, 0), -3000);
        due("access(16, 0)", ended, x -> x.access(16, 0), -3000);
    }

    /** "-4 no room" */
    private void noRoom() {
        List<Supplier<ProtectHooks>> full = List.of(Systems::full, Systems::fullAndEnded);
        due("application(0)", full, x -> x.application(0), -4);
        due("task(1, 0)", full, x -> x.task(1, 0), -4);
        due("region(1, 0, 1)", full, x -> x.region(1, 0, 1), -4);
    }
}

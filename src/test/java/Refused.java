import java.util.function.Consumer;
import java.util.function.Supplier;

/**
 * That a call throws what is due and changes nothing: of two objects made alike, one gets the call, and both must
 * answer all later calls alike.
 */
final class Refused {
    private Refused() {
    }

    static void index(String what, Supplier<RoleAnalyser> world, Consumer<RoleAnalyser> call) {
        check(what, IndexOutOfBoundsException.class, world, call);
    }

    static void argument(String what, Supplier<RoleAnalyser> world, Consumer<RoleAnalyser> call) {
        check(what, IllegalArgumentException.class, world, call);
    }

    static void state(String what, Supplier<RoleAnalyser> world, Consumer<RoleAnalyser> call) {
        check(what, IllegalStateException.class, world, call);
    }

    static void unsupported(String what, Supplier<RoleAnalyser> world, Consumer<RoleAnalyser> call) {
        check(what, UnsupportedOperationException.class, world, call);
    }

    /** That a call that is answered changes nothing either. */
    static void unchanged(String what, Supplier<RoleAnalyser> world, Consumer<RoleAnalyser> call) {
        for (int row = 0; row < Probe.ROWS; row++) {
            RoleAnalyser called = world.get();
            Check.passes(what, () -> call.accept(called));
            Check.same(what + ": afterwards", Probe.answers(row, world.get()), Probe.answers(row, called));
        }
    }

    private static void check(String what, Class<?> due, Supplier<RoleAnalyser> world, Consumer<RoleAnalyser> call) {
        for (int row = 0; row < Probe.ROWS; row++) {
            RoleAnalyser refused = world.get();
            Check.fails(what, due, () -> call.accept(refused));
            Check.same(what + ": afterwards", Probe.answers(row, world.get()), Probe.answers(row, refused));
        }
    }
}

import java.util.function.Consumer;
import java.util.function.Supplier;

/** Calls that throw: which exception is due, and that nothing has changed. */
final class Refused {
    private static final Class<IllegalArgumentException> ARGUMENT = IllegalArgumentException.class;
    private static final Class<IllegalStateException> STATE = IllegalStateException.class;
    private static final Class<IndexOutOfBoundsException> INDEX = IndexOutOfBoundsException.class;

    private final Checks checks;
    private final Supplier<BreakPlaces> make;

    /** The object that the calls meet is made anew for each of them. */
    Refused(Checks checks, Supplier<BreakPlaces> make) {
        this.checks = checks;
        this.make = make;
    }

    void badArgument(String what, Consumer<BreakPlaces> call) {
        check(what, ARGUMENT, call);
    }

    void badState(String what, Consumer<BreakPlaces> call) {
        check(what, STATE, call);
    }

    void badIndex(String what, Consumer<BreakPlaces> call) {
        check(what, INDEX, call);
    }

    /** The object is compared with one like it that has not had the call. */
    private void check(String what, Class<? extends RuntimeException> due, Consumer<BreakPlaces> call) {
        BreakPlaces x = make.get();
        // All rules are asked for once, so that what is kept of them must outlast the call.
        x.count(2);
        checks.isThrown(what, due, () -> call.accept(x));
        checks.sameText("what stands after " + what, Texts.state(x), Texts.state(make.get()));
    }
}

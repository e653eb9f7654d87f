import java.util.function.Consumer;
import java.util.function.Supplier;

/** "A method that throws an exception changes nothing", looked at by two towns that are alike. */
final class Refusal {
    private final Check check;

    Refusal(Check check) {
        this.check = check;
    }

    /** The call must throw exactly this class; then the town goes on as one without the call. */
    void is(String what, Class<?> due, Supplier<CurfewDesk> town, Consumer<CurfewDesk> call) {
        CurfewDesk asked = town.get();
        check.refuses(what, due, asked, () -> call.accept(asked));
        check.is(what + " leaves nothing behind", true,
                Trace.of(town.get()).equals(Trace.of(asked)));
    }
}

import java.util.function.Consumer;
import java.util.function.Function;
import java.util.function.Supplier;

/**
 * A refused call must leave no trace. Two offices are made in the same way, one is asked for what
 * it refuses, and then both must look the same, now and after all that could show a trace. Each
 * look takes two new offices, so that none is used for more calls than the document allows.
 */
final class Refusal {
    private static final int MOST_UNDOS = 9;

    private Refusal() {
    }

    /** The call is refused, and the office is in all its parts as before. */
    static void of(String what, String exception, Supplier<LampLeaseOffice> made,
            Function<LampLeaseOffice, Object> call) {
        LampLeaseOffice refusing = made.get();
        Check.due(what, exception, () -> call.apply(refusing));
        Consumer<LampLeaseOffice> refused = office -> Check.outcome(() -> call.apply(office));
        sameStates(what, made, refused);
        same(what + ", texts", made, refused, Questions::texts);
        same(what + ", input buffer", made, refused, office -> Check.outcome(() -> office.feed('x')));
        same(what + ", the text in it", made, refused, office -> Check.outcome(office::runCommands)
                + Questions.state(office) + Questions.texts(office));
    }

    /** The text is refused; the input buffer is empty, and the state is as before. */
    static void ofText(String what, String exception, Supplier<LampLeaseOffice> made, String text) {
        LampLeaseOffice refusing = made.get();
        Check.same(what, exception, Offices.run(refusing, text));
        Check.same(what + ", input buffer", 1, refusing.feed('x'));
        Consumer<LampLeaseOffice> refused = office -> Offices.run(office, text);
        sameStates(what, made, refused);
        same(what + ", output", made, refused, Offices::writtenOutput);
    }

    /** The state, the states that undo leads to, and the saved one. */
    private static void sameStates(String what, Supplier<LampLeaseOffice> made,
            Consumer<LampLeaseOffice> refused) {
        same(what + ", state", made, refused, Questions::state);
        for (int undos = 1; undos <= MOST_UNDOS; undos++) {
            int times = undos;
            same(what + ", state after undo " + undos, made, refused, office -> undone(office, times));
        }
        same(what + ", saved state", made, refused,
                office -> Check.outcome(office::restore) + Questions.state(office));
    }

    private static String undone(LampLeaseOffice office, int times) {
        StringBuilder answers = new StringBuilder();
        for (int undo = 0; undo < times; undo++) {
            answers.append(Check.outcome(office::undo)).append(' ');
        }
        return answers.append(Questions.state(office)).toString();
    }

    private static void same(String what, Supplier<LampLeaseOffice> made,
            Consumer<LampLeaseOffice> refused, Function<LampLeaseOffice, Object> look) {
        LampLeaseOffice untouched = made.get();
        LampLeaseOffice refusing = made.get();
        refused.accept(refusing);
        Check.same(what, look.apply(untouched), look.apply(refusing));
    }
}

import java.util.function.Predicate;
import java.util.function.Supplier;
import java.util.function.ToLongFunction;

/**
 * Refused calls on objects in one state. Each has an object of its own, which must tell the same
 * as a twin that was never asked, at once and some steps later: so hidden state counts too.
 */
final class Twins {
    private static final int[] LATER = {50, 200};

    private final Due due;
    private final Supplier<SharedWire> maker;

    Twins(Due due, Supplier<SharedWire> maker) {
        this.due = due;
        this.maker = maker;
    }

    void refuse(String what, Class<? extends RuntimeException> named, ToLongFunction<SharedWire> call) {
        SharedWire asked = maker.get();
        due.refuses(what, named, () -> call.applyAsLong(asked));
        sameAsTwin(what, asked);
    }

    void answerFalse(String what, Predicate<SharedWire> call) {
        SharedWire asked = maker.get();
        due.equal(what, call.test(asked), false);
        sameAsTwin(what, asked);
    }

    private void sameAsTwin(String what, SharedWire asked) {
        SharedWire twin = maker.get();
        due.equal(what + " left the wire", Play.wholeWire(asked), Play.wholeWire(twin));
        due.equal(what + " left the tape", Play.wholeTape(asked), Play.wholeTape(twin));
        for (int steps : LATER) {
            due.equal(what + ", the level later", asked.step(steps, 0), twin.step(steps, 0));
            due.equal(what + ", the wire later", Play.wholeWire(asked), Play.wholeWire(twin));
        }
    }
}

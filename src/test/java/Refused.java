import java.util.List;
import java.util.function.Function;
import java.util.function.IntSupplier;
import java.util.function.Supplier;
import java.util.function.ToIntFunction;

/**
 * A refused call: it throws the exception that is due, and behind it the object goes on as one that was not asked.
 * Whatever could have changed is looked at with a pair of objects of its own, so that no object comes to 512 calls.
 */
final class Refused {
    private static final List<Supplier<RelayTuner>> ALL = List.of(RelayTuner::new, Full::inRelay, Full::inControl);

    private Refused() {
    }

    static void argument(String call, ToIntFunction<RelayTuner> body) {
        ALL.forEach(made -> refused(call, IllegalArgumentException.class, made, body));
    }

    static void argument(String call, Supplier<RelayTuner> made, ToIntFunction<RelayTuner> body) {
        refused(call, IllegalArgumentException.class, made, body);
    }

    static void index(String call, ToIntFunction<RelayTuner> body) {
        ALL.forEach(made -> refused(call, IndexOutOfBoundsException.class, made, body));
    }

    static void index(String call, Supplier<RelayTuner> made, ToIntFunction<RelayTuner> body) {
        refused(call, IndexOutOfBoundsException.class, made, body);
    }

    static void state(String call, Supplier<RelayTuner> made, ToIntFunction<RelayTuner> body) {
        refused(call, IllegalStateException.class, made, body);
    }

    private static void refused(String call, Class<? extends RuntimeException> due, Supplier<RelayTuner> made,
            ToIntFunction<RelayTuner> body) {
        compare(call, made, x -> Due.thrown(call, due, () -> body.applyAsInt(x)));
    }

    /** A call that answers, but changes nothing: no state, no remembered one, no text and no save slot. */
    static void nothing(String call, Supplier<RelayTuner> made, ToIntFunction<RelayTuner> body) {
        compare(call, made, x -> body.applyAsInt(x));
    }

    static void nothing(String call, ToIntFunction<RelayTuner> body) {
        ALL.forEach(made -> nothing(call, made, body));
    }

    private interface Asked {
        void ask(RelayTuner x);
    }

    private static void compare(String call, Supplier<RelayTuner> made, Asked body) {
        compareOne(call, made, body, "it", Due::look);
        compareOne(call, made, body, "the next 200 ticks", x -> answer(() -> x.tick(200)) + Due.look(x));
        compareOne(call, made, body, "the open trials", Refused::takenBack);
        compareOne(call, made, body, "the text", x -> answer(x::errorPosition) + answer(x::clearText));
        for (int slot = 0; slot <= 1; slot++) {
            int s = slot;
            compareOne(call, made, body, "slot " + s, x -> answer(() -> x.restore(s)) + Due.look(x));
        }
        for (int depth = 1; depth <= 15; depth++) {
            int d = depth;
            compareOne(call, made, body, d + " undone", x -> undone(x, d) + Due.look(x));
        }
    }

    private static void compareOne(String call, Supplier<RelayTuner> made, Asked body, String where,
            Function<RelayTuner, String> seen) {
        RelayTuner x = made.get();
        body.ask(x);
        Due.same(call + ": " + where, seen.apply(made.get()), seen.apply(x));
    }

    private static String takenBack(RelayTuner x) {
        StringBuilder all = new StringBuilder();
        for (int k = 0; k < 9; k++) {
            all.append(answer(x::takeBack));
            for (int what = 8; what <= 11; what++) {
                all.append(x.about(what)).append(' ');
            }
        }
        return all.toString();
    }

    private static String undone(RelayTuner x, int depth) {
        StringBuilder all = new StringBuilder();
        for (int k = 0; k < depth; k++) {
            all.append(answer(x::undo));
        }
        return all.toString();
    }

    private static String answer(IntSupplier call) {
        try {
            return call.getAsInt() + "; ";
        } catch (RuntimeException e) {
            return e.getClass().getName() + "; ";
        }
    }
}

import java.util.function.LongSupplier;

/** Counts the answers that are not the ones that are due; every test ends with finish(). */
final class Due {
    private static int wrong = 0;
    private static int asked = 0;
    private static String sentence = "";

    private Due() {
    }

    /** The sentence of the document that the next answers are asked for; it stands before each wrong one. */
    static void words(String document) {
        sentence = "[" + document + "] ";
    }

    static void is(String call, long want, long got) {
        asked++;
        if (got != want) {
            tell(call + " answered " + got + ", due is " + want);
        }
    }

    private static void tell(String fault) {
        wrong++;
        System.out.println(sentence + fault);
    }

    static void badArgument(String call, LongSupplier body) {
        thrown(call, IllegalArgumentException.class, body);
    }

    static void badIndex(String call, LongSupplier body) {
        thrown(call, IndexOutOfBoundsException.class, body);
    }

    static void badState(String call, LongSupplier body) {
        thrown(call, IllegalStateException.class, body);
    }

    // The class itself is asked for, since the machine's own exceptions are subclasses of these.
    static void thrown(String call, Class<? extends RuntimeException> due, LongSupplier body) {
        asked++;
        try {
            tell(call + " answered " + body.getAsLong() + ", due is " + due.getName());
        } catch (RuntimeException e) {
            if (e.getClass() != due) {
                tell(call + " threw " + e + ", due is " + due.getName());
            }
        }
    }

    /** Everything that can be seen of an object without changing it, as one text. */
    static String look(RelayTuner x) {
        StringBuilder all = new StringBuilder();
        for (int what = 0; what <= 19; what++) {
            all.append(' ').append(x.about(what));
        }
        all.append(" |");
        for (int what = 0; what <= 6; what++) {
            all.append(' ').append(x.account(what));
        }
        for (int j = 0; j < x.about(16); j++) {
            all.append(" |");
            for (int what = 0; what <= 4; what++) {
                all.append(' ').append(x.swing(j, what));
            }
        }
        all.append(" | ").append(x.errorPosition());
        // The pipe is shorter than 12 ticks; what comes behind them shows in the sums.
        for (int m = 1; m <= 12; m++) {
            all.append(' ').append(x.ahead(m, 0));
        }
        for (int what = 0; what <= 4; what++) {
            all.append(' ').append(x.ahead(90, what));
        }
        return all.toString();
    }

    static void same(String call, String want, String got) {
        asked++;
        if (!want.equals(got)) {
            tell(call + " left\n  " + got + "\ndue is\n  " + want);
        }
    }

    static void type(RelayTuner x, String text) {
        x.clearText();
        for (int i = 0; i < text.length(); i++) {
            x.append(text.charAt(i));
        }
    }

    /** Disturbs the heater until it has a temperature. */
    static void heat(RelayTuner x, int temperature) {
        int away = temperature - x.about(12);
        for (int k = 0; k < 50 && away != 0; k++) {
            x.disturb(Math.max(-500, Math.min(500, away)));
            away = temperature - x.about(12);
        }
    }

    static RelayTuner loaded(String text) {
        RelayTuner x = new RelayTuner();
        type(x, text);
        x.load();
        return x;
    }

    static void finish() {
        System.out.println("  " + asked + " answers asked, " + wrong + " not as due");
        if (wrong != 0) {
            System.exit(1);
        }
    }
}

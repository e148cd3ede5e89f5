import java.util.function.LongSupplier;

/** Counts the answers that are not the ones that are due; every test ends with finish(). */
final class Due {
    private static int wrong = 0;
    private static int asked = 0;

    private Due() {
    }

    static void is(String call, long want, long got) {
        asked++;
        if (got != want) {
            wrong++;
            System.out.println(call + " answered " + got + ", due is " + want);
        }
    }

    static void badArgument(String call, LongSupplier body) {
        thrown(call, IllegalArgumentException.class, body);
    }

    static void badIndex(String call, LongSupplier body) {
        thrown(call, IndexOutOfBoundsException.class, body);
    }

    static void badState(String call, LongSupplier body) {
        thrown(call, IllegalStateException.class, body);
    }

    // The class itself is asked for, since the machine's own exceptions are subclasses of these.
    private static void thrown(String call, Class<? extends RuntimeException> due, LongSupplier body) {
        asked++;
        try {
            long got = body.getAsLong();
            wrong++;
            System.out.println(call + " answered " + got + ", due is " + due.getName());
        } catch (RuntimeException e) {
            if (e.getClass() != due) {
                wrong++;
                System.out.println(call + " threw " + e + ", due is " + due.getName());
            }
        }
    }

    /** Everything that can be seen of an object without changing it, as one text. */
    static String look(RelayTuner x) {
        StringBuilder all = new StringBuilder();
        for (int what = 0; what <= 19; what++) {
            all.append(' ').append(x.about(what));
        }
        all.append(" |");
        for (int what = 0; what <= 6; what++) {
            all.append(' ').append(x.account(what));
        }
        for (int j = 0; j < x.about(16); j++) {
            all.append(" |");
            for (int what = 0; what <= 4; what++) {
                all.append(' ').append(x.swing(j, what));
            }
        }
        all.append(" | ").append(x.errorPosition());
        for (int m = 0; m <= 40; m++) {
            all.append(' ').append(x.ahead(m, 0)).append(' ').append(x.ahead(m, 3));
        }
        return all.toString();
    }

    static void same(String call, String want, String got) {
        asked++;
        if (!want.equals(got)) {
            wrong++;
            System.out.println(call + " left\n  " + got + "\ndue is\n  " + want);
        }
    }

    static void type(RelayTuner x, String text) {
        x.clearText();
        for (int i = 0; i < text.length(); i++) {
            x.append(text.charAt(i));
        }
    }

    static RelayTuner loaded(String text) {
        RelayTuner x = new RelayTuner();
        type(x, text);
        x.load();
        return x;
    }

    static void finish() {
        System.out.println("  " + asked + " answers asked, " + wrong + " not as due");
        if (wrong != 0) {
            System.exit(1);
        }
    }
}

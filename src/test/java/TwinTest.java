import java.util.Random;
import java.util.function.IntSupplier;

/**
 * Thousands of runs of calls, drawn with fixed seeds, on a RelayTuner and on a PlainTuner at once: every
 * answer and every exception must be the same. Most arguments are ordinary, some at an edge, some far out.
 */
public final class TwinTest {
    private static final int[] FAR = {Integer.MIN_VALUE, Integer.MAX_VALUE, -1, -2, 256, 1000, 201, 100, 61, -99999};
    private static final String[] TEXTS = {
        "G10N08L2H20", "G05N20L5H60A-10S150B00T05", "G20N01L0H99", "G01N50L9H99B20S060T99A+00",
        "G12N12L3H30T00S200A+50B10", "G01N01L0H99A+00S050", "G20N50L0H99A+00S030", "G03N03L1H50S090T30",
        "G01N01L0H01A-99S000", "G20N02L9H99A+99S999T10", "G02N01L1H60A+00S070B00T40"};
    private static final String SIGNS = "GNLHASBT+-0123456789";

    private final Random random;
    private final RelayTuner x = new RelayTuner();
    private final PlainTuner y = new PlainTuner();
    private final String run;
    private final StringBuilder told = new StringBuilder();

    private TwinTest(long seed) {
        random = new Random(seed);
        run = "run " + seed + ": ";
    }

    public static void main(String[] args) {
        for (long seed = 1; seed <= 600; seed++) {
            new TwinTest(seed).go();
        }
        Due.finish();
    }

    private void go() {
        boolean talk = random.nextInt(8) == 0;
        if (!talk && random.nextInt(4) > 0) {
            type(TEXTS[random.nextInt(TEXTS.length)]);
            both("load", x::load, y::load);
        }
        int calls = 40 + random.nextInt(160);
        for (int k = 0; k < calls; k++) {
            if (talk) {
                talk();
            } else if (random.nextInt(10) < 6) {
                act();
            } else {
                ask();
            }
        }
        Due.is(run + "looks the same", 1, look() ? 1 : 0);
    }

    private boolean look() {
        for (int what = 0; what <= 19; what++) {
            int w = what;
            both("about " + w, () -> x.about(w), () -> y.about(w));
        }
        for (int what = 0; what <= 6; what++) {
            int w = what;
            both("account " + w, () -> x.account(w), () -> y.account(w));
        }
        for (int j = -1; j <= 20; j++) {
            int s = j;
            for (int what = 0; what <= 4; what++) {
                int w = what;
                both("swing " + s + " " + w, () -> x.swing(s, w), () -> y.swing(s, w));
            }
        }
        return true;
    }

    private void both(String call, IntSupplier a, IntSupplier b) {
        String got = answer(a);
        String want = answer(b);
        told.append(call).append(" = ").append(want).append("; ");
        Due.same(run + told.substring(Math.max(0, told.length() - 600)), want, got);
    }

    private static String answer(IntSupplier call) {
        try {
            return Integer.toString(call.getAsInt());
        } catch (RuntimeException e) {
            return e.getClass().getName();
        }
    }

    private void type(String text) {
        both("clearText", x::clearText, y::clearText);
        for (int k = 0; k < text.length(); k++) {
            append(text.charAt(k));
        }
    }

    private void append(int c) {
        both("append " + c, () -> x.append(c), () -> y.append(c));
    }

    /** A number from least to most, now and then one outside. */
    private int some(int least, int most) {
        int kind = random.nextInt(40);
        if (kind == 0) {
            return FAR[random.nextInt(FAR.length)];
        }
        if (kind == 1) {
            return random.nextBoolean() ? least - 1 : most + 1;
        }
        if (kind <= 4) {
            return random.nextBoolean() ? least : most;
        }
        return least + random.nextInt(most - least + 1);
    }

    private void talk() {
        int kind = random.nextInt(30);
        if (kind == 0) {
            type("");
        } else if (kind == 1) {
            StringBuilder text = new StringBuilder(TEXTS[random.nextInt(TEXTS.length)]);
            int place = random.nextInt(text.length());
            if (random.nextBoolean()) {
                text.setCharAt(place, SIGNS.charAt(random.nextInt(SIGNS.length())));
            } else if (random.nextBoolean()) {
                text.setLength(place);
            } else {
                text.append(TEXTS[1].substring(11 + random.nextInt(14)));
            }
            type(text.toString());
        } else if (kind < 20) {
            append(SIGNS.charAt(random.nextInt(SIGNS.length())));
        } else if (kind == 20) {
            append(some(0, 255));
        } else if (kind == 21) {
            both("load", x::load, y::load);
        }
        both("errorPosition", x::errorPosition, y::errorPosition);
    }

    private void act() {
        switch (random.nextInt(16)) {
            case 0: case 1: case 2: case 3: {
                int m = random.nextBoolean() ? some(1, 200) : some(1, 12);
                both("tick " + m, () -> x.tick(m), () -> y.tick(m));
                break;
            }
            case 4: case 5: {
                int v = random.nextBoolean() ? 1 : some(0, 2);
                both("mode " + v, () -> x.mode(v), () -> y.mode(v));
                break;
            }
            case 6: case 7: {
                int what = some(5, 10);
                int v = what == 5 ? some(0, 300) : what == 6 ? some(0, 20) : what == 7 ? some(0, 99)
                    : random.nextInt(4) == 0 ? some(0, 9999) : some(0, 120);
                both("set " + what + " " + v, () -> x.set(what, v), () -> y.set(what, v));
                break;
            }
            case 8: case 9: {
                int t = random.nextBoolean() ? some(-500, 500) : some(-60, 60);
                both("disturb " + t, () -> x.disturb(t), () -> y.disturb(t));
                break;
            }
            case 10: {
                int j = some(0, 6);
                both("discard " + j, () -> x.discard(j), () -> y.discard(j));
                break;
            }
            case 11: {
                int r = some(0, 3);
                both("tryRule " + r, () -> x.tryRule(r), () -> y.tryRule(r));
                break;
            }
            case 12:
                both("takeBack", x::takeBack, y::takeBack);
                break;
            case 13:
                if (random.nextInt(4) == 0) {
                    both("accept", x::accept, y::accept);
                }
                break;
            case 14:
                both("undo", x::undo, y::undo);
                break;
            default:
                slots();
                break;
        }
    }

    private void slots() {
        int slot = some(0, 1);
        switch (random.nextInt(6)) {
            case 0: case 1: case 2:
                both("save " + slot, () -> x.save(slot), () -> y.save(slot));
                break;
            case 3: case 4:
                both("restore " + slot, () -> x.restore(slot), () -> y.restore(slot));
                break;
            default:
                if (random.nextInt(4) == 0) {
                    both("load", x::load, y::load);
                }
                break;
        }
    }

    private void ask() {
        switch (random.nextInt(12)) {
            case 0: {
                int w = some(0, 19);
                both("about " + w, () -> x.about(w), () -> y.about(w));
                break;
            }
            case 1: {
                int w = some(0, 6);
                both("account " + w, () -> x.account(w), () -> y.account(w));
                break;
            }
            case 2: {
                int j = some(0, 19);
                int w = some(0, 4);
                both("swing " + j + " " + w, () -> x.swing(j, w), () -> y.swing(j, w));
                break;
            }
            case 3: {
                boolean span = random.nextBoolean();
                both("middle " + span, () -> x.middle(span), () -> y.middle(span));
                break;
            }
            case 4: {
                int r = some(0, 3);
                int w = some(0, 2);
                both("proposal " + r + " " + w, () -> x.proposal(r, w), () -> y.proposal(r, w));
                break;
            }
            case 5: {
                int n = some(1, 20);
                both("toleranceFor " + n, () -> x.toleranceFor(n), () -> y.toleranceFor(n));
                break;
            }
            case 6: {
                int m = some(0, 200);
                int w = some(0, 4);
                both("ahead " + m + " " + w, () -> x.ahead(m, w), () -> y.ahead(m, w));
                break;
            }
            case 7: {
                int r = some(0, 3);
                int m = some(1, 200);
                int w = some(0, 4);
                both("outcome " + r + " " + m + " " + w, () -> x.outcome(r, m, w), () -> y.outcome(r, m, w));
                break;
            }
            case 8: {
                int m = some(1, 200);
                both("bestRule " + m, () -> x.bestRule(m), () -> y.bestRule(m));
                break;
            }
            case 9: {
                int width = some(0, 99);
                both("settlesAfter " + width, () -> x.settlesAfter(width), () -> y.settlesAfter(width));
                break;
            }
            case 10:
                script();
                break;
            default: {
                long seed = random.nextLong();
                int m = some(1, 60);
                both("simulate " + seed + " " + m, () -> x.simulate(seed, m), () -> y.simulate(seed, m));
                break;
            }
        }
    }

    private void script() {
        int n = some(1, 3);
        long all = 0;
        for (int k = 0; k < n && k < 3; k++) {
            all = all * 100000 + group();
        }
        if (random.nextInt(30) == 0) {
            all = new long[] {-1, Long.MIN_VALUE, Long.MAX_VALUE, 100000, 10000000000L, 1000000000000000L,
                99999, 9999999999L, 999999999999999L}[random.nextInt(9)];
        }
        long script = all;
        both("runScript " + n + " " + script, () -> x.runScript(n, script), () -> y.runScript(n, script));
    }

    private int group() {
        if (random.nextInt(12) == 0) {
            return random.nextInt(100000);
        }
        switch (random.nextInt(9)) {
            case 0:
                return 10000 + random.nextInt(random.nextBoolean() ? 30 : 203);
            case 1:
                return 20000 + random.nextInt(4);
            case 2:
                return 30000 + random.nextInt(2) * 1000 + random.nextInt(520);
            case 3:
                return 40000 + (4 + random.nextInt(6)) * 1000 + random.nextInt(random.nextBoolean() ? 25 : 1000);
            case 4:
                return 50000 + random.nextInt(5);
            case 5:
                return 60000 + random.nextInt(20) / 19;
            case 6:
                return 70000 + random.nextInt(2) * 1000 + random.nextInt(300);
            case 7:
                return 80000 + random.nextInt(14);
            default:
                return 90000 + random.nextInt(4);
        }
    }
}

import java.math.BigInteger;
import java.util.ArrayDeque;
import java.util.ArrayList;
import java.util.List;
import java.util.regex.Matcher;
import java.util.regex.Pattern;
import java.util.stream.Collectors;

/**
 * The document once more, written as slowly and as plainly as it can be, with the Java library and without
 * a thought of speed. TwinTest compares its answers with those of RelayTuner.
 */
final class PlainTuner {
    static final int NONE = -99999;

    record Swing(int period, int high, int low, int clock) {
        int span() {
            return high - low;
        }
    }

    record Trial(int p, int i, int d, int mode) {
    }

    static final class World {
        int[] n = {10, 8, 2, 20, 20, 100, 3, 20, 50, 0, 0};
        int mode = 0;
        int temp = 20;
        boolean on = false;
        int sum = 0;
        List<Integer> errors = new ArrayList<>();
        List<Integer> outputs = new ArrayList<>();
        List<Integer> modes = new ArrayList<>();
        int crossings = 0;
        int disturbances = 0;
        int lastCrossing = -1;
        List<Integer> since = new ArrayList<>();
        List<Swing> swings = new ArrayList<>();
        List<Trial> trials = new ArrayList<>();

        World copy() {
            World w = new World();
            w.n = n.clone();
            w.mode = mode;
            w.temp = temp;
            w.on = on;
            w.sum = sum;
            w.errors = new ArrayList<>(errors);
            w.outputs = new ArrayList<>(outputs);
            w.modes = new ArrayList<>(modes);
            w.crossings = crossings;
            w.disturbances = disturbances;
            w.lastCrossing = lastCrossing;
            w.since = new ArrayList<>(since);
            w.swings = new ArrayList<>(swings);
            w.trials = new ArrayList<>(trials);
            return w;
        }

        int clock() {
            return outputs.size();
        }

        static int clamp(long v, int low, int high) {
            return (int) Math.max(low, Math.min(high, v));
        }

        void tick() {
            int s = n[5];
            int b = n[6];
            int output = 0;
            if (mode == 1) {
                boolean goesOff = temp >= s + b;
                boolean goesOn = temp <= s - b;
                if (goesOff) {
                    on = false;
                }
                if (goesOn && !goesOff) {
                    on = true;
                }
                output = on ? n[4] : 0;
            }
            if (mode == 2) {
                long e = s - temp;
                long d = errors.isEmpty() ? 0 : e - errors.get(errors.size() - 1);
                BigInteger all = BigInteger.valueOf(n[8]).multiply(BigInteger.valueOf(e))
                        .add(BigInteger.valueOf(n[9]).multiply(BigInteger.valueOf(sum)))
                        .add(BigInteger.valueOf(n[10]).multiply(BigInteger.valueOf(d)));
                long free = all.divide(BigInteger.valueOf(100)).longValueExact();
                output = clamp(free, 0, n[4]);
                if (free >= 0 && free <= n[4]) {
                    sum = clamp(sum + e, -9999, 9999);
                }
                errors.add((int) e);
            }
            outputs.add(output);
            modes.add(mode);
            int old = outputs.size() - 1 - n[2];
            int power = old < 0 ? 0 : outputs.get(old);
            int rest = n[3] + n[0] * power;
            int before = temp;
            if (rest != temp) {
                int change = (rest - temp) / n[1];
                if (change == 0) {
                    change = rest > temp ? 1 : -1;
                }
                temp = clamp((long) temp + change, -9999, 9999);
            }
            if (mode == 1) {
                since.add(temp);
                if (before < s && temp >= s) {
                    crossings++;
                    if (lastCrossing >= 0) {
                        swings.add(new Swing(clock() - lastCrossing,
                                since.stream().max(Integer::compare).get(),
                                since.stream().min(Integer::compare).get(), clock()));
                        if (swings.size() > 20) {
                            swings.remove(0);
                        }
                    }
                    lastCrossing = clock();
                    since.clear();
                }
            }
        }

        void ticks(int m) {
            if (m < 1 || m > 200) {
                throw new IllegalArgumentException();
            }
            for (int k = 0; k < m; k++) {
                tick();
            }
        }

        void mode(int v) {
            if (v < 0 || v > 2) {
                throw new IllegalArgumentException();
            }
            if (v == mode) {
                return;
            }
            mode = v;
            on = v == 1;
            lastCrossing = -1;
            since.clear();
            if (v == 2) {
                sum = 0;
                errors.clear();
            }
        }

        void set(int what, int v) {
            int[] most = {0, 0, 0, 0, 0, 999, 20, 99, 9999, 9999, 9999};
            if (what < 5 || what > 10 || v < 0 || v > most[what]) {
                throw new IllegalArgumentException();
            }
            n[what] = v;
        }

        void disturb(int t) {
            if (t < -500 || t > 500) {
                throw new IllegalArgumentException();
            }
            temp = clamp((long) temp + t, -9999, 9999);
            disturbances++;
        }

        int middle(boolean span) {
            List<Integer> all = swings.stream().skip(1).map(s -> span ? s.span() : s.period()).sorted()
                    .collect(Collectors.toList());
            return all.isEmpty() ? NONE : all.get((all.size() - 1) / 2);
        }

        int reason(int j, int tolerance) {
            if (j == 0) {
                return 1;
            }
            int q = middle(false);
            if (Math.abs(swings.get(j).period() - q) * 100L > (long) tolerance * q) {
                return 2;
            }
            q = middle(true);
            if (Math.abs(swings.get(j).span() - q) * 100L > (long) tolerance * q) {
                return 3;
            }
            return 0;
        }

        List<Swing> good(int tolerance) {
            List<Swing> all = new ArrayList<>();
            for (int j = 0; j < swings.size(); j++) {
                if (reason(j, tolerance) == 0) {
                    all.add(swings.get(j));
                }
            }
            return all;
        }

        int[] proposal(int rule) {
            if (rule < 0 || rule > 3) {
                throw new IndexOutOfBoundsException();
            }
            List<Swing> good = good(n[7]);
            if (good.isEmpty()) {
                return null;
            }
            long s = Math.max(1, good.stream().mapToLong(Swing::span).sum() / good.size());
            long p = Math.max(1, good.stream().mapToLong(Swing::period).sum() / good.size());
            long k = 127L * n[4] / s;
            long[] r = {0, 0, 0};
            if (rule == 0) {
                r[0] = k / 2;
            } else if (rule == 1) {
                r[0] = k * 45 / 100;
                r[1] = r[0] * 12 / (10 * p);
            } else if (rule == 2) {
                r[0] = k * 6 / 10;
                r[1] = r[0] * 2 / p;
                r[2] = r[0] * p / 8;
            } else {
                r[0] = k * 2 / 10;
                r[1] = r[0] * 2 / p;
                r[2] = r[0] * p / 3;
            }
            return new int[] {clamp(r[0], 0, 9999), clamp(r[1], 0, 9999), clamp(r[2], 0, 9999)};
        }

        void begin(int rule) {
            int[] r = proposal(rule);
            n[8] = r[0];
            n[9] = r[1];
            n[10] = r[2];
            mode(2);
        }

        void trial(int rule) {
            if (proposal(rule) == null || trials.size() >= 8) {
                throw new IllegalStateException();
            }
            trials.add(new Trial(n[8], n[9], n[10], mode));
            begin(rule);
        }

        void takeBack() {
            if (trials.isEmpty()) {
                throw new IllegalStateException();
            }
            Trial t = trials.remove(trials.size() - 1);
            n[8] = t.p();
            n[9] = t.i();
            n[10] = t.d();
            mode(t.mode());
        }
    }

    private World w = new World();
    private final StringBuilder text = new StringBuilder();
    private final ArrayDeque<World> past = new ArrayDeque<>();
    private final World[] slots = new World[2];

    private static void argument(boolean good) {
        if (!good) {
            throw new IllegalArgumentException();
        }
    }

    private static void index(boolean good) {
        if (!good) {
            throw new IndexOutOfBoundsException();
        }
    }

    private static void state(boolean good) {
        if (!good) {
            throw new IllegalStateException();
        }
    }

    private void remember() {
        past.addLast(w.copy());
        if (past.size() > 14) {
            past.removeFirst();
        }
    }

    int append(int c) {
        argument(c >= 0 && c <= 255);
        state(text.length() < 60);
        text.append((char) c);
        return text.length();
    }

    int clearText() {
        int n = text.length();
        text.setLength(0);
        return n;
    }

    private static final String HEAD = "G(0[1-9]|1[0-9]|20)N(0[1-9]|[1-4][0-9]|50)L[0-9]H(0[1-9]|[1-9][0-9])";
    private static final String[] PARTS = {"A[+-][0-9][0-9]", "S[0-9][0-9][0-9]", "B([01][0-9]|20)", "T[0-9][0-9]"};
    private static final Pattern TEXT = Pattern.compile(HEAD + "(" + orders("", 0) + ")");

    /** All orders of all choices of parts, as alternatives. */
    private static String orders(String before, int used) {
        StringBuilder all = new StringBuilder(before);
        for (int k = 0; k < PARTS.length; k++) {
            if ((used & 1 << k) == 0) {
                all.append('|').append(orders(before + PARTS[k], used | 1 << k));
            }
        }
        return all.toString();
    }

    int errorPosition() {
        for (int k = text.length(); k >= 0; k--) {
            Matcher m = TEXT.matcher(text.substring(0, k));
            if (m.matches()) {
                return k == text.length() ? NONE : k;
            }
            if (m.hitEnd()) {
                return k;
            }
        }
        throw new AssertionError("the empty text begins a text");
    }

    int load() {
        state(errorPosition() == NONE);
        w = new World();
        for (int k = 0; k < text.length(); k++) {
            char c = text.charAt(k);
            int place = "GNLAHSBT".indexOf(c);
            if (place >= 0) {
                Matcher m = Pattern.compile("[+-]?[0-9]+").matcher(text);
                m.find(k);
                w.n[place] = Integer.parseInt(m.group());
            }
        }
        w.temp = w.n[3];
        past.clear();
        slots[0] = null;
        slots[1] = null;
        return w.temp;
    }

    int about(int what) {
        argument(what >= 0 && what <= 19);
        if (what <= 10) {
            return w.n[what];
        }
        int[] rest = {w.mode, w.temp, w.clock(), w.on ? 1 : 0, w.sum, w.swings.size(), w.good(w.n[7]).size(),
            w.trials.size(), w.outputs.isEmpty() ? 0 : w.outputs.get(w.outputs.size() - 1)};
        return rest[what - 11];
    }

    int swing(int j, int what) {
        index(j >= 0 && j < w.swings.size());
        argument(what >= 0 && what <= 4);
        Swing s = w.swings.get(j);
        return new int[] {s.period(), s.high(), s.low(), w.reason(j, w.n[7]), s.clock()}[what];
    }

    int account(int what) {
        argument(what >= 0 && what <= 6);
        if (what <= 2) {
            return (int) w.modes.stream().filter(m -> m == what).count();
        }
        int changes = 0;
        for (int k = 0; k < w.outputs.size(); k++) {
            int before = k == 0 ? 0 : w.outputs.get(k - 1);
            if (w.outputs.get(k) != before) {
                changes++;
            }
        }
        int sum = w.outputs.stream().mapToInt(o -> o).sum();
        return new int[] {sum, changes, w.crossings, w.disturbances}[what - 3];
    }

    int tick(int m) {
        World next = w.copy();
        next.ticks(m);
        remember();
        w = next;
        return w.temp;
    }

    int mode(int v) {
        World next = w.copy();
        next.mode(v);
        remember();
        int before = w.mode;
        w = next;
        return before;
    }

    int set(int what, int v) {
        World next = w.copy();
        next.set(what, v);
        remember();
        int before = w.n[what];
        w = next;
        return before;
    }

    int disturb(int t) {
        World next = w.copy();
        next.disturb(t);
        remember();
        w = next;
        return w.temp;
    }

    int discard(int j) {
        index(j >= 0 && j < w.swings.size());
        remember();
        return w.swings.remove(j).period();
    }

    int tryRule(int rule) {
        World next = w.copy();
        next.trial(rule);
        remember();
        w = next;
        return w.n[8];
    }

    int takeBack() {
        World next = w.copy();
        next.takeBack();
        remember();
        w = next;
        return w.trials.size();
    }

    int accept() {
        remember();
        int n = w.trials.size();
        w.trials.clear();
        return n;
    }

    int undo() {
        state(!past.isEmpty());
        w = past.removeLast();
        return past.size();
    }

    int middle(boolean span) {
        return w.middle(span);
    }

    int proposal(int rule, int what) {
        index(rule >= 0 && rule <= 3);
        argument(what >= 0 && what <= 2);
        int[] r = w.proposal(rule);
        return r == null ? NONE : r[what];
    }

    int toleranceFor(int n) {
        argument(n >= 1 && n <= 20);
        for (int t = 0; t <= 99; t++) {
            if (w.good(t).size() >= n) {
                return t;
            }
        }
        return NONE;
    }

    private static int forecast(World c, int m, int what) {
        int outputs = 0;
        int greatest = NONE;
        int far = 0;
        for (int k = 0; k < m; k++) {
            c.tick();
            outputs += c.outputs.get(c.outputs.size() - 1);
            greatest = Math.max(greatest, c.temp);
            far += Math.abs(c.n[5] - c.temp);
        }
        return new int[] {c.temp, outputs, greatest, c.swings.size(), far}[what];
    }

    int ahead(int m, int what) {
        argument(m >= 0 && m <= 200 && what >= 0 && what <= 4);
        return forecast(w.copy(), m, what);
    }

    int outcome(int rule, int m, int what) {
        index(rule >= 0 && rule <= 3);
        argument(m >= 1 && m <= 200 && what >= 0 && what <= 4);
        if (w.proposal(rule) == null) {
            return NONE;
        }
        World c = w.copy();
        c.begin(rule);
        return forecast(c, m, what);
    }

    int bestRule(int m) {
        argument(m >= 1 && m <= 200);
        int best = NONE;
        for (int rule = 3; rule >= 0; rule--) {
            if (w.proposal(rule) != null
                    && (best == NONE || outcome(rule, m, 4) <= outcome(best, m, 4))) {
                best = rule;
            }
        }
        return best;
    }

    int settlesAfter(int width) {
        argument(width >= 0 && width <= 99);
        World c = w.copy();
        int[] off = new int[201];
        for (int k = 0; k <= 200; k++) {
            off[k] = Math.abs(c.temp - c.n[5]);
            c.tick();
        }
        int k = 201;
        while (k > 0 && off[k - 1] <= width) {
            k--;
        }
        return k == 201 ? NONE : k;
    }

    private static boolean command(World c, String g) {
        int last = g.charAt(4) - '0';
        int xyz = Integer.parseInt(g.substring(2));
        int signed = g.charAt(1) == '1' ? -xyz : xyz;
        try {
            if (g.matches("10...")) {
                c.ticks(xyz);
            } else if (g.matches("2000.")) {
                c.mode(last);
            } else if (g.matches("3[01]...")) {
                c.disturb(signed);
            } else if (g.matches("4[5-9]...")) {
                c.set(g.charAt(1) - '0', xyz);
            } else if (g.matches("5000.")) {
                c.trial(last);
            } else if (g.matches("60000")) {
                c.takeBack();
            } else if (g.matches("7[01]...")) {
                return c.temp >= signed;
            } else if (g.matches("800..")) {
                return c.good(c.n[7]).size() >= Integer.parseInt(g.substring(3));
            } else if (g.matches("9000.")) {
                return c.trials.size() == last;
            } else {
                return false;
            }
            return true;
        } catch (IllegalArgumentException | IllegalStateException | IndexOutOfBoundsException e) {
            return false;
        }
    }

    int runScript(int n, long script) {
        argument(n >= 1 && n <= 3 && script >= 0 && Long.toString(script).length() <= 5 * n);
        String digits = String.format("%0" + 5 * n + "d", script);
        World c = w.copy();
        for (int k = 0; k < n; k++) {
            if (!command(c, digits.substring(5 * k, 5 * k + 5))) {
                return k;
            }
        }
        return NONE;
    }

    int simulate(long seed, int m) {
        argument(m >= 1 && m <= 60);
        World c = w.copy();
        long x = seed;
        for (int k = 0; k < m; k++) {
            x = x * 6364136223846793005L + 1442695040888963407L;
            int r = (int) (x >>> 33);
            if (r % 8 == 0) {
                c.disturb(r / 8 % 81 - 40);
            }
            c.ticks(3);
        }
        return 100000 * c.good(c.n[7]).size() + c.temp;
    }

    int save(int slot) {
        index(slot == 0 || slot == 1);
        slots[slot] = w.copy();
        return w.clock();
    }

    int restore(int slot) {
        index(slot == 0 || slot == 1);
        state(slots[slot] != null);
        w = slots[slot].copy();
        past.clear();
        return w.clock();
    }
}

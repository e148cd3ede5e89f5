import java.util.function.Supplier;

/** Promises 25 and 26: a test for each sentence that names an edge. */
public final class EdgeOfScriptsTest {
    private static final int NONE = RelayTuner.NONE;

    public static void main(String[] args) {
        numberOfCommands();
        digits();
        highestGroupFirst();
        everyGroup();
        lettingTicksPass();
        changingTheMode();
        disturbing();
        setting();
        beginningATrial();
        takingATrialBack();
        temperatureAtLeast();
        goodSwingsAtLeast();
        openTrials();
        anyOtherGroup();
        theFirstThatFails();
        onACopy();
        rounds();
        seeds();
        disturbedIfRMod8Is0();
        byMinus40To40();
        goodSwingsAndTemperature();
        Due.finish();
    }

    private static void runs(Supplier<RelayTuner> made, int n, long script, int due) {
        Due.is("runScript(" + n + ", " + script + ")", due, made.get().runScript(n, script));
    }

    private static void succeeds(Supplier<RelayTuner> made, int n, long script) {
        runs(made, n, script, NONE);
    }

    private static void numberOfCommands() {
        Due.words("runScript: n: number of commands, 1 to 3");
        for (int n : new int[] {0, 4, -1, Integer.MIN_VALUE, Integer.MAX_VALUE}) {
            Refused.argument("runScript(" + n + ", 0)", x -> x.runScript(n, 0));
            Refused.argument("runScript(" + n + ", 10001)", x -> x.runScript(n, 10001));
        }
        succeeds(RelayTuner::new, 1, 20000L);
        succeeds(RelayTuner::new, 2, 2000020000L);
        succeeds(RelayTuner::new, 3, 200002000020000L);
    }

    private static void digits() {
        Due.words("script: a number of at most 5 * n digits (0 or more)");
        Refused.argument("runScript(1, 100000)", x -> x.runScript(1, 100000L));
        Refused.argument("runScript(2, 10000000000)", x -> x.runScript(2, 10000000000L));
        Refused.argument("runScript(3, 1000000000000000)", x -> x.runScript(3, 1000000000000000L));
        for (int k = 1; k <= 3; k++) {
            int n = k;
            Refused.argument("runScript(" + n + ", -1)", x -> x.runScript(n, -1L));
            Refused.argument("runScript(" + n + ", -20000)", x -> x.runScript(n, -20000L));
            Refused.argument("runScript(" + n + ", the least long)", x -> x.runScript(n, Long.MIN_VALUE));
            Refused.argument("runScript(" + n + ", the greatest long)", x -> x.runScript(n, Long.MAX_VALUE));
            runs(RelayTuner::new, n, 0, 0);
        }
        runs(RelayTuner::new, 1, 99999L, 0);
        runs(RelayTuner::new, 2, 9999999999L, 0);
        runs(RelayTuner::new, 3, 999999999999999L, 0);
        // A number that is a command in its lower 32 bits alone.
        Refused.argument("runScript(1, 2 to 32 and 20000)", x -> x.runScript(1, (1L << 32) + 20000));
    }

    private static void highestGroupFirst() {
        Due.words("the first command is the highest group of the number (with zeros before it, if it has fewer digits)");
        runs(RelayTuner::new, 2, 20000L, 0);
        runs(RelayTuner::new, 3, 2000020000L, 0);
        runs(RelayTuner::new, 3, 20000L, 0);
        runs(RelayTuner::new, 1, 2000L, 0);
        runs(RelayTuner::new, 2, 200002000L, 0);
        runs(RelayTuner::new, 2, 2000000000L, 1);
        runs(RelayTuner::new, 3, 200000000020000L, 1);
        runs(RelayTuner::new, 3, 200002000000000L, 2);
        // 30080 and then 70100 succeeds, the other way round it does not.
        succeeds(RelayTuner::new, 2, 3008070100L);
        runs(RelayTuner::new, 2, 7010030080L, 0);
    }

    /** What the document tells of a group of digits, for a state without anything near a limit but these. */
    private static boolean stands(int group, int temperature, int good, int open) {
        int d1 = group / 10000;
        int d2 = group / 1000 % 10;
        int xyz = group % 1000;
        int last = group % 10;
        boolean zeros = group / 10 % 1000 == 0;
        int[] most = {0, 0, 0, 0, 0, 999, 20, 99, 9999, 9999};
        switch (d1) {
            case 1: return d2 == 0 && xyz >= 1 && xyz <= 200;
            case 2: return zeros && last <= 2;
            case 3: return d2 <= 1 && xyz <= 500;
            case 4: return d2 >= 5 && xyz <= most[d2];
            case 5: return zeros && last <= 3 && good > 0 && open < 8;
            case 6: return zeros && last == 0 && open > 0;
            case 7: return d2 == 0 && temperature >= xyz || d2 == 1 && temperature >= -xyz;
            case 8: return group / 100 % 100 == 0 && good >= group % 100;
            case 9: return zeros && open == last;
            default: return false;
        }
    }

    /** A tuner with three good swings, eight open trials or fewer, and a temperature. */
    private static RelayTuner swung(int open, int temperature) {
        RelayTuner x = Made.ofPeriods(10, 9, 5, 5, 5);
        for (int k = 0; k < open; k++) {
            x.tryRule(k % 4);
        }
        Due.heat(x, temperature);
        return x;
    }

    private static void everyGroup() {
        Due.words("fail .., and so does any other group (also one with another digit where a 0 is written)");
        int[][] states = {{0, 5}, {8, -123}, {3, 700}};
        for (int[] state : states) {
            RelayTuner x = null;
            for (int group = 0; group <= 99999; group++) {
                if (group % 250 == 0) {
                    x = swung(state[0], state[1]);
                }
                int due = stands(group, state[1], 3, state[0]) ? NONE : 0;
                Due.is("runScript(1, " + group + ") with " + state[0] + " open trials", due, x.runScript(1, group));
            }
        }
    }

    /** Asks whether behind a command the temperature is this one, and not one more. */
    private static void comesTo(Supplier<RelayTuner> made, int command, int temperature) {
        int sign = temperature < 0 ? 1000 : 0;
        int more = temperature + 1;
        succeeds(made, 2, command * 100000L + 70000 + sign + Math.abs(temperature));
        runs(made, 2, command * 100000L + 70000 + (more < 0 ? 1000 : 0) + Math.abs(more), 1);
    }

    private static void lettingTicksPass() {
        Due.words("1 0 x y z: lets xyz ticks pass (001 to 200).");
        Supplier<RelayTuner> relay = () -> {
            RelayTuner x = new RelayTuner();
            x.mode(1);
            return x;
        };
        runs(relay, 1, 10000L, 0);
        runs(relay, 1, 10201L, 0);
        runs(relay, 1, 10999L, 0);
        runs(relay, 1, 11001L, 0);
        for (int m : new int[] {1, 2, 10, 17, 99, 100, 199, 200}) {
            comesTo(relay, 10000 + m, relay.get().tick(m));
        }
    }

    private static void changingTheMode() {
        Due.words("2 0 0 0 v: changes the mode to v.");
        for (int v = 0; v <= 9; v++) {
            runs(RelayTuner::new, 1, 20000L + v, v <= 2 ? NONE : 0);
        }
        for (int other : new int[] {20010, 20100, 21000, 29001}) {
            runs(RelayTuner::new, 1, other, 0);
        }
        for (int v = 0; v <= 2; v++) {
            RelayTuner x = new RelayTuner();
            x.set(8, 3);
            x.set(5, 300);
            x.save(0);
            x.mode(v);
            int due = x.tick(30);
            x.restore(0);
            Due.is("30 ticks behind mode " + v, NONE, x.runScript(3, 200001003070000L + v * 10000000000L + due));
            Due.is("and not 1 more", 2, x.runScript(3, 200001003070001L + v * 10000000000L + due));
        }
        // In the mode that there is nothing changes: the relay stays off.
        RelayTuner y = new RelayTuner();
        y.mode(1);
        y.tick(9);
        Due.is("the relay", 0, y.about(14));
        int due = y.ahead(3, 0);
        Due.is("3 ticks behind mode(1) in the mode 1", NONE, y.runScript(3, 200011000370000L + due));
        Due.is("and not 1 more", 2, y.runScript(3, 200011000370001L + due));
    }

    private static void disturbing() {
        Due.words("3 s x y z: disturbs by xyz (s is 0), or by -xyz (s is 1).");
        for (int tenths : new int[] {0, 1, 9, 10, 99, 100, 499, 500}) {
            comesTo(RelayTuner::new, 30000 + tenths, 20 + tenths);
            comesTo(RelayTuner::new, 31000 + tenths, 20 - tenths);
        }
        for (int group : new int[] {30501, 30999, 31501, 31999, 32000, 32001, 39000}) {
            runs(RelayTuner::new, 1, group, 0);
        }
        Supplier<RelayTuner> hot = () -> {
            RelayTuner x = Due.loaded("G01N50L0H99A+00");
            Due.heat(x, 9990);
            return x;
        };
        // A disturbance over the top of the range shows when the heater has cooled down.
        RelayTuner x = hot.get();
        x.disturb(500);
        int due = x.tick(200);
        succeeds(hot, 3, 305001020070000L + due);
        runs(hot, 3, 305001020070001L + due, 2);
        Due.words("The commands 1 to 6 fail if the method with this effect would throw an exception");
        runs(hot, 1, 30501, 0);
        succeeds(hot, 1, 30500);
    }

    private static void setting() {
        Due.words("4 w x y z: sets number w, as by set(), to xyz (w is 5 to 9).");
        int[] most = {999, 20, 99, 999, 999};
        for (int w = 5; w <= 9; w++) {
            int top = most[w - 5];
            succeeds(RelayTuner::new, 1, 40000 + 1000 * w);
            succeeds(RelayTuner::new, 1, 40000 + 1000 * w + top);
            if (top < 999) {
                runs(RelayTuner::new, 1, 40000 + 1000 * w + top + 1, 0);
                runs(RelayTuner::new, 1, 40000 + 1000 * w + 999, 0);
            }
        }
        for (int group : new int[] {40000, 41001, 44000, 44001, 44999}) {
            runs(RelayTuner::new, 1, group, 0);
        }
        for (int w = 5; w <= 9; w++) {
            for (int v : new int[] {0, 1, 17, 20}) {
                RelayTuner x = Full.inControl();
                x.save(0);
                x.set(w, v);
                int good = x.about(17);
                int due = x.tick(3);
                x.restore(0);
                long script = (40000L + 1000 * w + v) * 10000000000L + 1000300000L;
                Due.is("3 ticks behind set(" + w + ", " + v + ")", NONE, x.runScript(3, script + 70000 + due));
                Due.is("and not 1 more", 2, x.runScript(3, script + 70000 + due + 1));
                Due.is("good swings", NONE, x.runScript(3, script + 80000 + good));
                Due.is("and not 1 more", 2, x.runScript(3, script + 80000 + good + 1));
            }
        }
    }

    private static void beginningATrial() {
        Due.words("5 0 0 0 r: begins a trial of rule r; commands with rules that do not exist fail");
        for (int r = 0; r <= 9; r++) {
            runs(() -> swung(0, 5), 1, 50000L + r, r <= 3 ? NONE : 0);
            runs(RelayTuner::new, 1, 50000L + r, 0);
            runs(() -> Made.ofPeriods(6, 5), 1, 50000L + r, 0);
            runs(() -> swung(7, 5), 1, 50000L + r, r <= 3 ? NONE : 0);
            runs(() -> swung(8, 5), 1, 50000L + r, 0);
        }
        runs(() -> swung(7, 5), 2, 5000050000L, 1);
        succeeds(() -> swung(6, 5), 3, 500005000090008L);
        runs(() -> swung(6, 5), 3, 500005000050000L, 2);
        for (int group : new int[] {50010, 50100, 51000, 59003}) {
            runs(() -> swung(0, 5), 1, group, 0);
        }
        for (int r = 0; r <= 3; r++) {
            int due = Full.inRelay().outcome(r, 20, 0);
            runs(Full::inRelay, 3, 500001002070000L + r * 10000000000L + due, NONE);
            runs(Full::inRelay, 3, 500001002070001L + r * 10000000000L + due, 2);
        }
    }

    private static void takingATrialBack() {
        Due.words("6 0 0 0 0: takes the latest trial back.");
        runs(RelayTuner::new, 1, 60000L, 0);
        runs(() -> swung(0, 5), 1, 60000L, 0);
        succeeds(() -> swung(1, 5), 1, 60000L);
        runs(() -> swung(1, 5), 2, 6000060000L, 1);
        succeeds(() -> swung(2, 5), 3, 600006000090000L);
        succeeds(() -> swung(8, 5), 3, 600005000090008L);
        succeeds(() -> swung(8, 5), 2, 6000090007L);
        for (int group : new int[] {60001, 60010, 60100, 61000}) {
            runs(() -> swung(1, 5), 1, group, 0);
        }
        RelayTuner x = Full.inRelay();
        x.takeBack();
        int due = x.tick(20);
        runs(Full::inRelay, 3, 600001002070000L + due, NONE);
        runs(Full::inRelay, 3, 600001002070001L + due, 2);
    }

    private static void temperatureAtLeast() {
        Due.words("7 s x y z: succeeds if the temperature is at least xyz (s is 0), or at least -xyz (s is 1).");
        for (int t : new int[] {0, 1, 5, 500, 998, 999}) {
            Supplier<RelayTuner> made = () -> swung(0, t);
            succeeds(made, 1, 70000L + t);
            if (t < 999) {
                runs(made, 1, 70000L + t + 1, 0);
            }
            succeeds(made, 1, 71000L);
            succeeds(made, 1, 71999L);
        }
        for (int t : new int[] {-1, -5, -500, -998, -999}) {
            Supplier<RelayTuner> made = () -> swung(0, t);
            succeeds(made, 1, 71000L - t);
            runs(made, 1, 71000L - t - 1, 0);
            runs(made, 1, 70000L, 0);
            runs(made, 1, 71000L, 0);
        }
        runs(() -> swung(0, -1000), 1, 71999L, 0);
        succeeds(() -> swung(0, 1000), 1, 70999L);
        for (int s = 2; s <= 9; s++) {
            runs(() -> swung(0, 1000), 1, 70000L + 1000 * s, 0);
        }
    }

    private static void goodSwingsAtLeast() {
        Due.words("8 0 0 x y: succeeds if there are at least xy good swings.");
        succeeds(RelayTuner::new, 1, 80000L);
        runs(RelayTuner::new, 1, 80001L, 0);
        succeeds(() -> swung(0, 5), 1, 80003L);
        runs(() -> swung(0, 5), 1, 80004L, 0);
        Supplier<RelayTuner> twenty = () -> Made.ofPeriods(6, 5, 5, 5, 5, 5, 5, 5, 5, 5, 5, 5, 5, 5, 5, 5, 5, 5, 5, 5, 5);
        succeeds(twenty, 1, 80000L);
        succeeds(twenty, 1, 80019L);
        runs(twenty, 1, 80020L, 0);
        runs(twenty, 1, 80099L, 0);
        runs(twenty, 1, 80100L, 0);
        runs(twenty, 1, 81000L, 0);
    }

    private static void openTrials() {
        Due.words("9 0 0 0 n: succeeds if n trials are open.");
        for (int open = 0; open <= 8; open++) {
            int k = open;
            for (int n = 0; n <= 9; n++) {
                runs(() -> swung(k, 5), 1, 90000L + n, n == open ? NONE : 0);
            }
        }
        runs(() -> swung(0, 5), 1, 90010L, 0);
        runs(() -> swung(0, 5), 1, 90100L, 0);
        runs(() -> swung(0, 5), 1, 91000L, 0);
    }

    private static void anyOtherGroup() {
        Due.words("and so does any other group");
        for (int group = 0; group <= 9999; group += 11) {
            runs(RelayTuner::new, 1, group, 0);
        }
        runs(RelayTuner::new, 1, 9999, 0);
        runs(RelayTuner::new, 2, 2000000001L, 1);
    }

    private static void theFirstThatFails() {
        Due.words("Returns the index, from 0, of the first command that fails; NONE if all succeed.");
        long good = 20000;
        long bad = 0;
        for (int k = 0; k < 8; k++) {
            long[] three = {(k & 4) == 0 ? good : bad, (k & 2) == 0 ? good : bad, (k & 1) == 0 ? good : bad};
            int due = (k & 4) != 0 ? 0 : (k & 2) != 0 ? 1 : (k & 1) != 0 ? 2 : NONE;
            runs(RelayTuner::new, 3, (three[0] * 100000 + three[1]) * 100000 + three[2], due);
            if ((k & 1) == 0) {
                runs(RelayTuner::new, 2, three[0] * 100000 + three[1], due);
            }
        }
    }

    private static void onACopy() {
        Due.words("Runs a script on a copy of the state.");
        long[] scripts = {102003050020000L, 460004700048001L, 500006000060000L, 500005000150002L, 102001020010200L,
            200012000220000L, 500000000050000L};
        for (long script : scripts) {
            Refused.nothing("runScript(3, " + script + ")", x -> x.runScript(3, script));
        }
    }

    private static void rounds() {
        Due.words("simulate: m: number of rounds, 1 to 60");
        for (int m : new int[] {0, 61, -1, Integer.MIN_VALUE, Integer.MAX_VALUE}) {
            Refused.argument("simulate(7, " + m + ")", x -> x.simulate(7, m));
        }
        for (int m : new int[] {1, 2, 59, 60}) {
            Due.is("simulate(7, " + m + ")", played(Full.inRelay(), 7, m), Full.inRelay().simulate(7, m));
        }
    }

    /** The document's words, by calls of the object itself. */
    private static int played(RelayTuner x, long seed, int m) {
        long state = seed;
        for (int k = 0; k < m; k++) {
            state = state * 6364136223846793005L + 1442695040888963407L;
            int r = (int) (state >>> 33);
            if (r % 8 == 0) {
                x.disturb(r / 8 % 81 - 40);
            }
            x.tick(3);
        }
        return 100000 * x.about(17) + x.about(12);
    }

    private static void seeds() {
        Due.words("seed: any long (with long overflow)");
        for (long seed : new long[] {0, 1, -1, 11, Long.MIN_VALUE, Long.MAX_VALUE, Long.MIN_VALUE + 1, 1L << 32,
            6364136223846793005L, -1442695040888963407L}) {
            Due.is("simulate(" + seed + ", 30)", played(Full.inRelay(), seed, 30), Full.inRelay().simulate(seed, 30));
            Due.is("simulate(" + seed + ", 60)", played(Full.inControl(), seed, 60),
                    Full.inControl().simulate(seed, 60));
        }
    }

    private static int firstR(long seed) {
        return (int) ((seed * 6364136223846793005L + 1442695040888963407L) >>> 33);
    }

    // In this heater the temperature behind a disturbance and three ticks tells the disturbance.
    private static RelayTuner slow() {
        RelayTuner x = Due.loaded("G01N50L0H99A+00");
        Due.heat(x, 48);
        return x;
    }

    private static void disturbedIfRMod8Is0() {
        Due.words("If r % 8 is 0, the heater is disturbed by r / 8 % 81 - 40. Then 3 ticks pass.");
        boolean[] seen = new boolean[8];
        for (long seed = 0; seed < 100; seed++) {
            int r = firstR(seed);
            seen[r % 8] = true;
            int by = r % 8 == 0 ? r / 8 % 81 - 40 : 0;
            Due.is("simulate(" + seed + ", 1)", 48 + by - 3, slow().simulate(seed, 1));
        }
        for (int k = 0; k < 8; k++) {
            Due.is("a seed has left " + k, 1, seen[k] ? 1 : 0);
        }
    }

    private static void byMinus40To40() {
        Due.words("the heater is disturbed by r / 8 % 81 - 40");
        int found = 0;
        for (long seed = 0; seed < 20000 && found < 6; seed++) {
            int r = firstR(seed);
            int by = r / 8 % 81 - 40;
            if (r % 8 == 0 && (by <= -39 || by == 0 || by >= 39)) {
                found++;
                Due.is("simulate(" + seed + ", 1) by " + by, 48 + by - 3, slow().simulate(seed, 1));
            }
        }
        Due.is("seeds that were found", 6, found);
        // At the top of the range a disturbance goes no further.
        for (long seed = 0; seed < 50; seed++) {
            RelayTuner x = Due.loaded("G01N50L0H99A+00");
            RelayTuner y = Due.loaded("G01N50L0H99A+00");
            Due.heat(x, 9999);
            Due.heat(y, 9999);
            Due.is("simulate(" + seed + ", 1) at the top", played(y, seed, 1), x.simulate(seed, 1));
        }
    }

    private static void goodSwingsAndTemperature() {
        Due.words("simulate: Returns 100000 * (the number of good swings) + (the temperature) at the end.");
        RelayTuner x = copyOfCold();
        Due.is("no good swing, below 0", played(copyOfCold(), 3, 5), x.simulate(3, 5));
        Due.is("it is below 0", 1, x.simulate(3, 5) < 0 ? 1 : 0);
        RelayTuner y = swung(0, 5);
        y.mode(0);
        y.set(8, 0);
        Due.is("three good swings", 3, (y.simulate(2, 1) + 500) / 100000);
        RelayTuner z = swung(0, -900);
        z.mode(0);
        Due.is("three good swings, below 0", 1, z.simulate(2, 1) < 300000 ? 1 : 0);
    }

    private static RelayTuner copyOfCold() {
        RelayTuner x = Due.loaded("G01N50L0H99A-99");
        x.tick(200);
        return x;
    }
}

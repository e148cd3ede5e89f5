/** Promises 21 to 24: a test for each sentence that names an edge. */
public final class EdgeOfForecastsTest {
    private static final int NONE = RelayTuner.NONE;
    /** Off, it comes to 0 by 1 a tick, from 99 or less. */
    private static final String SLOW = "G01N50L0H99A+00S000";

    public static void main(String[] args) {
        aheadOfNoTick();
        aheadOfUpTo200();
        aheadOfNumbers();
        aheadOfTwentySwings();
        aheadOfCold();
        outcomeOfTicks();
        outcomeOfRules();
        outcomeOfNumbers();
        outcomeWithoutAGoodSwing();
        outcomeWithEightTrials();
        outcomeLooksAtTheRuleFirst();
        bestOfTicks();
        bestOfSeveral();
        bestWithoutAGoodSwing();
        settlesWithinAWidth();
        settlesNow();
        settlesInTwoHundred();
        settlesAndStays();
        nothingChanges();
        Due.finish();
    }

    private static RelayTuner at(String text, int temperature) {
        RelayTuner x = Due.loaded(text);
        Due.heat(x, temperature);
        return x;
    }

    private static void aheadOfNoTick() {
        Due.words("ahead: m: number of ticks, 0 to 200; 2: the greatest temperature behind any of them (NONE for m = 0)");
        RelayTuner x = new RelayTuner();
        Due.is("ahead(0, 0)", 20, x.ahead(0, 0));
        Due.is("ahead(0, 1)", 0, x.ahead(0, 1));
        Due.is("ahead(0, 2)", NONE, x.ahead(0, 2));
        Due.is("ahead(0, 3)", 0, x.ahead(0, 3));
        Due.is("ahead(0, 4)", 0, x.ahead(0, 4));
        RelayTuner y = Full.inRelay();
        Due.is("ahead(0, 0)", y.about(12), y.ahead(0, 0));
        Due.is("ahead(0, 1)", 0, y.ahead(0, 1));
        Due.is("ahead(0, 2)", NONE, y.ahead(0, 2));
        Due.is("ahead(0, 3)", y.about(16), y.ahead(0, 3));
        Due.is("ahead(0, 4)", 0, y.ahead(0, 4));
        // The temperature now is not behind any tick.
        RelayTuner z = at(SLOW, 50);
        Due.is("ahead(1, 2)", 49, z.ahead(1, 2));
        Due.is("ahead(1, 4)", 49, z.ahead(1, 4));
    }

    private static void aheadOfUpTo200() {
        Due.words("ahead: IllegalArgumentException if m or what is out of range");
        for (int m : new int[] {-1, 201, Integer.MIN_VALUE, Integer.MAX_VALUE}) {
            Refused.argument("ahead(" + m + ", 0)", x -> x.ahead(m, 0));
        }
        for (int what : new int[] {-1, 5, Integer.MIN_VALUE, Integer.MAX_VALUE}) {
            Refused.argument("ahead(0, " + what + ")", x -> x.ahead(0, what));
            Refused.argument("ahead(200, " + what + ")", x -> x.ahead(200, what));
        }
        Refused.argument("ahead(-1, 5)", x -> x.ahead(-1, 5));
    }

    /** The five numbers of ahead, by ticks one after the other. */
    private static int[] brought(RelayTuner x, int m) {
        int[] all = {x.about(12), 0, NONE, x.about(16), 0};
        for (int k = 0; k < m; k++) {
            all[0] = x.tick(1);
            all[1] += x.about(19);
            all[2] = Math.max(all[2], all[0]);
            all[3] = x.about(16);
            all[4] += Math.abs(x.about(5) - all[0]);
        }
        return all;
    }

    private static void aheadOfNumbers() {
        Due.words("ahead: what: 0: the temperature; 1: the sum of the outputs in them; 2: the greatest temperature "
            + "behind any of them; 3: the number of swings that there are then; 4: the sum of |S - temperature| behind "
            + "each of them");
        for (int m : new int[] {1, 2, 50, 100}) {
            int[] relay = brought(Full.inRelay(), m);
            int[] control = brought(Full.inControl(), m);
            for (int what = 0; what <= 4; what++) {
                Due.is("ahead(" + m + ", " + what + ")", relay[what], Full.inRelay().ahead(m, what));
                Due.is("ahead(" + m + ", " + what + ")", control[what], Full.inControl().ahead(m, what));
            }
        }
        RelayTuner x = Full.inRelay();
        RelayTuner y = Full.inRelay();
        for (int m = 199; m <= 200; m++) {
            x.save(0);
            Due.is("ahead(" + m + ", 0)", x.tick(m), y.ahead(m, 0));
            Due.is("ahead(" + m + ", 3)", x.about(16), y.ahead(m, 3));
            x.restore(0);
        }
    }

    private static void aheadOfTwentySwings() {
        Due.words("3: the number of swings that there are then (at most 20 are kept)");
        RelayTuner x = Made.begun();
        for (int k = 1; k <= 19; k++) {
            Made.swing(x, 2, 10);
        }
        Due.heat(x, 0);
        Due.is("ahead(1, 3) with 19", 20, x.ahead(1, 3));
        x.tick(1);
        Due.heat(x, 0);
        Due.is("ahead(1, 3) with 20", 20, x.ahead(1, 3));
        Due.is("ahead(200, 3) with 20", 20, x.ahead(200, 3));
        Due.is("swings", 20, x.about(16));
        x.mode(0);
        Due.is("ahead(1, 3) in the mode 0", 20, x.ahead(1, 3));
    }

    private static void aheadOfCold() {
        Due.words("2: the greatest temperature behind any of them; 4: the sum of |S - temperature| behind each of them");
        RelayTuner x = at("G01N50L0H99A-99S000", -9999);
        Due.is("ahead(1, 2)", -9999 + 9900 / 50, x.ahead(1, 2));
        Due.is("ahead(1, 4)", 9999 - 9900 / 50, x.ahead(1, 4));
        RelayTuner y = at("G01N50L0H99A+99S999", 9999);
        Due.is("ahead(1, 2)", 9999 - 9900 / 50, y.ahead(1, 2));
        Due.is("ahead(1, 4)", 9000 - 9900 / 50, y.ahead(1, 4));
        RelayTuner z = at(SLOW, 3);
        Due.is("ahead(3, 4): 2 1 0", 3, z.ahead(3, 4));
        Due.is("ahead(200, 4)", 3, z.ahead(200, 4));
        Due.is("ahead(200, 2)", 2, z.ahead(200, 2));
        z.set(5, 1);
        Due.is("ahead(3, 4): 1 0 1 beside S = 1", 2, z.ahead(3, 4));
    }

    private static void outcomeOfTicks() {
        Due.words("outcome: m: number of ticks behind its beginning, 1 to 200");
        for (int m : new int[] {0, 201, -1, Integer.MIN_VALUE, Integer.MAX_VALUE}) {
            Refused.argument("outcome(0, " + m + ", 0)", x -> x.outcome(0, m, 0));
        }
        for (int rule = 0; rule <= 3; rule++) {
            for (int m : new int[] {1, 2, 100}) {
                RelayTuner x = Full.inRelay();
                x.tryRule(rule);
                int[] due = brought(x, m);
                for (int what = 0; what <= 4; what++) {
                    Due.is("outcome(" + rule + ", " + m + ", " + what + ")", due[what],
                            Full.inRelay().outcome(rule, m, what));
                }
            }
            RelayTuner y = Full.inControl();
            y.tryRule(rule);
            Due.is("outcome(" + rule + ", 199, 0)", y.ahead(199, 0), Full.inControl().outcome(rule, 199, 0));
            Due.is("outcome(" + rule + ", 200, 4)", y.ahead(200, 4), Full.inControl().outcome(rule, 200, 4));
            Due.is("outcome(" + rule + ", 200, 0)", y.tick(200), Full.inControl().outcome(rule, 200, 0));
        }
    }

    private static void outcomeOfRules() {
        Due.words("outcome: IndexOutOfBoundsException if there is no such rule");
        for (int rule : new int[] {-1, 4, Integer.MIN_VALUE, Integer.MAX_VALUE}) {
            Refused.index("outcome(" + rule + ", 1, 0)", x -> x.outcome(rule, 1, 0));
        }
    }

    private static void outcomeOfNumbers() {
        Due.words("outcome: what: 0 to 4, as for ahead()");
        for (int what : new int[] {-1, 5, Integer.MIN_VALUE, Integer.MAX_VALUE}) {
            Refused.argument("outcome(3, 1, " + what + ")", x -> x.outcome(3, 1, what));
        }
    }

    private static void outcomeWithoutAGoodSwing() {
        Due.words("outcome: NONE if there is no good swing");
        int[][] odd = {{9, 9}, {10, 80}, {20, 9}};
        RelayTuner[] all = {new RelayTuner(), Made.ofPeriods(6, 5), Made.of(50, odd)};
        for (RelayTuner x : all) {
            for (int rule = 0; rule <= 3; rule++) {
                for (int what = 0; what <= 4; what++) {
                    Due.is("outcome(" + rule + ", 1, " + what + ")", NONE, x.outcome(rule, 1, what));
                    Due.is("outcome(" + rule + ", 200, " + what + ")", NONE, x.outcome(rule, 200, what));
                }
            }
        }
        Due.is("outcome(0, 1, 3) with one good swing", 2, Made.ofPeriods(6, 5, 5).outcome(0, 1, 3));
    }

    private static void outcomeWithEightTrials() {
        Due.words("(8 open trials do not matter)");
        RelayTuner x = Made.ofPeriods(6, 5, 5);
        RelayTuner y = Made.ofPeriods(6, 5, 5);
        for (int k = 1; k <= 8; k++) {
            x.tryRule(1);
            y.tryRule(1);
        }
        y.accept();
        Due.badState("tryRule(2)", () -> x.tryRule(2));
        y.tryRule(2);
        for (int what = 0; what <= 4; what++) {
            Due.is("outcome(2, 30, " + what + ")", y.ahead(30, what), x.outcome(2, 30, what));
        }
        Due.is("bestRule(30) is one", 1, x.bestRule(30) >= 0 ? 1 : 0);
        Due.is("open trials", 8, x.about(18));
    }

    private static void outcomeLooksAtTheRuleFirst() {
        Due.words("If several exceptions apply to a call, the one that its description names first is thrown.");
        Refused.index("outcome(4, 0, 5)", x -> x.outcome(4, 0, 5));
        Refused.index("outcome(-1, 201, 0)", x -> x.outcome(-1, 201, 0));
        Refused.index("outcome(4, 1, -1)", x -> x.outcome(4, 1, -1));
        Refused.argument("outcome(0, 0, 0) without a good swing", RelayTuner::new, x -> x.outcome(0, 0, 0));
        Refused.argument("outcome(0, 1, 5) without a good swing", RelayTuner::new, x -> x.outcome(0, 1, 5));
    }

    private static void bestOfTicks() {
        Due.words("bestRule: m: number of ticks, 1 to 200");
        for (int m : new int[] {0, 201, -1, Integer.MIN_VALUE, Integer.MAX_VALUE}) {
            Refused.argument("bestRule(" + m + ")", x -> x.bestRule(m));
        }
        for (int m : new int[] {1, 2, 199, 200}) {
            RelayTuner x = Full.inRelay();
            int best = 0;
            for (int rule = 1; rule <= 3; rule++) {
                best = x.outcome(rule, m, 4) < x.outcome(best, m, 4) ? rule : best;
            }
            Due.is("bestRule(" + m + ")", best, x.bestRule(m));
        }
    }

    private static void bestOfSeveral() {
        Due.words("bestRule: Returns the rule with the smallest outcome(rule, m, 4), among several the smallest one");
        best(40, 12, 1, 2, 1, 2, 0);
        best(17, 12, 2, 0, 0, 1, 0);
        best(25, 3, 3, 1, 1, 1, 0);
        best(50, 12, 3, 2, 2, 3, 1);
        best(20, 3, 1, 1, 0, 1, 0);
        best(20, 7, 0, 1, 0, 1, 0);
        best(20, 6, 0, 1, 0, 1, 0);
        best(50, 24, 0, 2, 2, 3, 1);
        best(50, 36, 2, 2, 2, 3, 1);
        best(17, 3, 0, 0, 0, 1, 0);
    }

    /**
     * With G = 12 a swing has the span 12 * H, so that K = 10 and the rules propose P = 5, 4, 6 and 2. Behind the first
     * tick of a trial the temperature is 12 * the output, which is P * error / 100.
     */
    private static void best(int error, int s, int due, int... outputs) {
        RelayTuner x = Due.loaded("G12N01L0H10A+00S001B00");
        x.mode(1);
        x.tick(5);
        x.set(5, s);
        Due.heat(x, s - error);
        for (int rule = 0; rule <= 3; rule++) {
            Due.is("the output of the rule " + rule + " with the error " + error, outputs[rule], x.outcome(rule, 1, 1));
            Due.is("its distance", Math.abs(s - 12 * outputs[rule]), x.outcome(rule, 1, 4));
        }
        Due.is("bestRule(1) with the error " + error + " and S = " + s, due, x.bestRule(1));
    }

    private static void bestWithoutAGoodSwing() {
        Due.words("bestRule: NONE if there is no good swing");
        Due.is("bestRule(1) without swings", NONE, new RelayTuner().bestRule(1));
        Due.is("bestRule(200) without swings", NONE, new RelayTuner().bestRule(200));
        Due.is("bestRule(1) with number 0 alone", NONE, Made.ofPeriods(6, 5).bestRule(1));
        int[][] odd = {{9, 9}, {10, 80}, {20, 9}};
        Due.is("bestRule(1) with odd ones alone", NONE, Made.of(50, odd).bestRule(1));
        Due.is("bestRule(1) with a good one is a rule", 1, Made.ofPeriods(6, 5, 5).bestRule(1) >= 0 ? 1 : 0);
    }

    private static void settlesWithinAWidth() {
        Due.words("settlesAfter: width: 0 to 99");
        for (int width : new int[] {-1, 100, Integer.MIN_VALUE, Integer.MAX_VALUE}) {
            Refused.argument("settlesAfter(" + width + ")", x -> x.settlesAfter(width));
        }
        Due.words("differs from S by at most width");
        for (int width : new int[] {0, 1, 50, 98, 99}) {
            RelayTuner x = at("G01N50L0H99A+00S000", width);
            Due.is("settlesAfter(" + width + ") from " + width, 0, x.settlesAfter(width));
            x.disturb(1);
            Due.is("settlesAfter(" + width + ") from 1 more", 1, x.settlesAfter(width));
            Due.heat(x, -width);
            Due.is("settlesAfter(" + width + ") from " + -width, 0, x.settlesAfter(width));
            x.disturb(-1);
            Due.is("settlesAfter(" + width + ") from 1 less", 1, x.settlesAfter(width));
        }
        RelayTuner y = Due.loaded("G01N50L0H99A-99S000");
        Due.is("settlesAfter(99), 99 away for ever", 0, y.settlesAfter(99));
        Due.is("settlesAfter(98)", NONE, y.settlesAfter(98));
    }

    private static void settlesNow() {
        Due.words("the smallest k, 0 to 200, such that (without other changes) the temperature behind k ticks (now, for "
            + "0) ..");
        RelayTuner x = at(SLOW, 30);
        Due.is("settlesAfter(99)", 0, x.settlesAfter(99));
        Due.is("settlesAfter(31)", 0, x.settlesAfter(31));
        Due.is("settlesAfter(30)", 0, x.settlesAfter(30));
        Due.is("settlesAfter(29)", 1, x.settlesAfter(29));
        Due.is("settlesAfter(28)", 2, x.settlesAfter(28));
        Due.is("settlesAfter(0)", 30, x.settlesAfter(0));
    }

    /** From how far off this heater needs so many ticks to come to rest. */
    private static int offBy(int ticks) {
        int t = 0;
        for (int k = 0; k < ticks; k++) {
            int before = t + 1;
            while (before - Math.max(1, before / 50) < t) {
                before++;
            }
            t = before;
        }
        return t;
    }

    private static void settlesInTwoHundred() {
        Due.words("the smallest k, 0 to 200; NONE if there is none");
        for (int ticks : new int[] {0, 1, 2, 198, 199, 200}) {
            Due.is("settlesAfter(0)", ticks, at(SLOW, offBy(ticks)).settlesAfter(0));
        }
        Due.is("settlesAfter(0) that needs 201", NONE, at(SLOW, offBy(201)).settlesAfter(0));
        Due.is("settlesAfter(1) that needs 201 for 0", 200, at(SLOW, offBy(201)).settlesAfter(1));
    }

    // It cools to 0; with S = width + 1 it leaves the width in its last tick, behind 199 to 202 ticks.
    private static void settlesAndStays() {
        Due.words("and behind each greater number of ticks up to 200 differs from S by at most width");
        for (int ticks : new int[] {199, 200, 201, 202}) {
            for (int width : new int[] {0, 1, 33, 98, 99}) {
                RelayTuner x = at(SLOW, offBy(ticks));
                x.set(5, width + 1);
                int since = ticksDown(offBy(ticks), width + 1 + width);
                Due.is("settlesAfter(" + width + ") with S = " + (width + 1) + " and " + ticks + " ticks to 0",
                        ticks > 200 && since <= 200 ? since : NONE, x.settlesAfter(width));
            }
        }
    }

    /** How many ticks it takes this heater to come down to another temperature or below. */
    private static int ticksDown(int from, int to) {
        int ticks = 0;
        for (int t = from; t > to; ticks++) {
            t -= Math.max(1, t / 50);
        }
        return ticks;
    }

    private static void nothingChanges() {
        Due.words("these and all following methods up to the save slots change nothing");
        Refused.nothing("ahead(200, 4)", x -> x.ahead(200, 4));
        Refused.nothing("outcome(2, 200, 4)", x -> x.outcome(2, 200, 4));
        Refused.nothing("bestRule(200)", x -> x.bestRule(200));
        Refused.nothing("settlesAfter(99)", x -> x.settlesAfter(99));
        Refused.nothing("middle(true)", x -> x.middle(true));
        Refused.nothing("proposal(3, 2)", x -> x.proposal(3, 2));
        Refused.nothing("toleranceFor(2)", x -> x.toleranceFor(2));
        Refused.nothing("runScript(3, 102002000150002)", x -> x.runScript(3, 102002000150002L));
        Refused.nothing("simulate(5, 60)", x -> x.simulate(5, 60));
    }
}

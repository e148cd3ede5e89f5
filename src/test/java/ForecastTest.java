/** Promises 21 to 24: ahead, outcome, bestRule, settlesAfter. */
public final class ForecastTest {
    private static final int NONE = RelayTuner.NONE;

    public static void main(String[] args) {
        aheadByHand();
        aheadIsWhatTicksBring();
        aheadKnowsTheWholeHeater();
        aheadRefuses();
        outcomeIsWhatATrialBrings();
        outcomeRefuses();
        bestRules();
        bestRuleOfEquals();
        settles();
        settlesInTwoHundredTicks();
        Due.finish();
    }

    // The ticks of HeaterTest: 20 20 45 66 85 101 115 128 139 125 112 ..
    private static void aheadByHand() {
        RelayTuner x = new RelayTuner();
        x.mode(1);
        String before = Due.look(x);
        Due.is("ahead(0, 0)", 20, x.ahead(0, 0));
        Due.is("ahead(0, 1)", 0, x.ahead(0, 1));
        Due.is("ahead(0, 2)", NONE, x.ahead(0, 2));
        Due.is("ahead(0, 3)", 0, x.ahead(0, 3));
        Due.is("ahead(0, 4)", 0, x.ahead(0, 4));
        Due.is("ahead(11, 0)", 112, x.ahead(11, 0));
        Due.is("ahead(11, 1)", 140, x.ahead(11, 1));
        Due.is("ahead(11, 2)", 139, x.ahead(11, 2));
        Due.is("ahead(16, 3)", 0, x.ahead(16, 3));
        Due.is("ahead(17, 3)", 1, x.ahead(17, 3));
        Due.is("ahead(7, 4)", 80 + 80 + 55 + 34 + 15 + 1 + 15, x.ahead(7, 4));
        Due.same("ahead", before, Due.look(x));
        RelayTuner y = new RelayTuner();
        y.disturb(-500);
        Due.is("ahead(1, 2) below 0", -480 + 500 / 8, y.ahead(1, 2));
    }

    private static RelayTuner swung() {
        RelayTuner x = new RelayTuner();
        x.mode(1);
        x.tick(70);
        return x;
    }

    /** What the ticks of an object bring, one by one: the five numbers of ahead. */
    private static int[] brought(RelayTuner x, int m) {
        int[] all = {x.about(12), 0, NONE, x.about(16), 0};
        for (int k = 0; k < m; k++) {
            all[0] = x.tick(1);
            all[1] += x.about(19);
            all[2] = Math.max(all[2], all[0]);
            all[3] = x.about(16);
            all[4] += Math.abs(x.about(5) - all[0]);
        }
        return all;
    }

    private static void aheadIsWhatTicksBring() {
        for (int mode = 0; mode <= 2; mode++) {
            RelayTuner x = swung();
            x.mode(mode);
            x.disturb(31);
            for (int m : new int[] {1, 2, 50, 199, 200}) {
                x.save(0);
                int[] due = brought(x, m);
                x.restore(0);
                for (int what = 0; what <= 4; what++) {
                    Due.is("ahead(" + m + ", " + what + ") in the mode " + mode, due[what], x.ahead(m, what));
                }
            }
        }
    }

    private static void aheadKnowsTheWholeHeater() {
        RelayTuner x = Due.loaded("G17N03L4H77A-13S250B06");
        x.set(8, 40);
        x.set(9, 3);
        x.set(10, 300);
        x.mode(2);
        x.tick(9);
        for (int m = 1; m <= 12; m++) {
            int due = x.ahead(1, 0);
            Due.is("tick " + m, due, x.tick(1));
        }
        x.mode(1);
        x.tick(30);
        for (int m = 1; m <= 12; m++) {
            int due = x.ahead(1, 0);
            Due.is("tick " + m + " of the relay", due, x.tick(1));
        }
    }

    private static void aheadRefuses() {
        RelayTuner x = swung();
        Due.badArgument("ahead(-1, 0)", () -> x.ahead(-1, 0));
        Due.badArgument("ahead(201, 0)", () -> x.ahead(201, 0));
        Due.badArgument("ahead(0, -1)", () -> x.ahead(0, -1));
        Due.badArgument("ahead(0, 5)", () -> x.ahead(0, 5));
        Due.badArgument("ahead(the greatest int, 0)", () -> x.ahead(Integer.MAX_VALUE, 0));
    }

    private static void outcomeIsWhatATrialBrings() {
        for (int mode = 0; mode <= 2; mode++) {
            RelayTuner x = swung();
            x.mode(mode);
            x.tick(2);
            for (int rule = 0; rule <= 3; rule++) {
                for (int m : new int[] {1, 2, 80, 200}) {
                    String before = Due.look(x);
                    x.save(0);
                    x.tryRule(rule);
                    int[] due = brought(x, m);
                    x.restore(0);
                    for (int what = 0; what <= 4; what++) {
                        Due.is("outcome(" + rule + ", " + m + ", " + what + ") from the mode " + mode, due[what],
                                x.outcome(rule, m, what));
                    }
                    Due.same("outcome", before, Due.look(x));
                }
            }
        }
    }

    private static void outcomeRefuses() {
        RelayTuner x = new RelayTuner();
        for (int rule = 0; rule <= 3; rule++) {
            for (int what = 0; what <= 4; what++) {
                Due.is("outcome without good swings", NONE, x.outcome(rule, 1, what));
            }
        }
        for (RelayTuner y : new RelayTuner[] {x, swung()}) {
            Due.badIndex("outcome(4, 1, 0)", () -> y.outcome(4, 1, 0));
            Due.badIndex("outcome(-1, 0, 5)", () -> y.outcome(-1, 0, 5));
            Due.badArgument("outcome(0, 0, 0)", () -> y.outcome(0, 0, 0));
            Due.badArgument("outcome(0, 201, 0)", () -> y.outcome(0, 201, 0));
            Due.badArgument("outcome(0, 1, 5)", () -> y.outcome(0, 1, 5));
            Due.badArgument("outcome(0, 1, -1)", () -> y.outcome(0, 1, -1));
            Due.badArgument("bestRule(0)", () -> y.bestRule(0));
            Due.badArgument("bestRule(201)", () -> y.bestRule(201));
            Due.badArgument("settlesAfter(-1)", () -> y.settlesAfter(-1));
            Due.badArgument("settlesAfter(100)", () -> y.settlesAfter(100));
        }
        Due.is("bestRule without good swings", NONE, x.bestRule(1));
        RelayTuner z = Swinging.begun();
        Swinging.add(z, 5, 2);
        Due.is("bestRule with number 0 alone", NONE, z.bestRule(200));
    }

    private static void bestRules() {
        boolean[] seen = new boolean[4];
        for (int heat = -400; heat <= 400; heat += 100) {
            RelayTuner x = swung();
            x.disturb(heat);
            for (int m = 1; m <= 200; m += 9) {
                int due = 0;
                for (int rule = 1; rule <= 3; rule++) {
                    if (x.outcome(rule, m, 4) < x.outcome(due, m, 4)) {
                        due = rule;
                    }
                }
                seen[due] = true;
                Due.is("bestRule(" + m + ") from " + heat, due, x.bestRule(m));
            }
        }
        int different = 0;
        for (boolean one : seen) {
            different += one ? 1 : 0;
        }
        Due.is("several rules are the best somewhere", 1, different > 1 ? 1 : 0);
    }

    private static void bestRuleOfEquals() {
        RelayTuner x = swung();
        // Far too hot, every rule gives no output at all.
        x.disturb(500);
        Due.is("the rules are equal", x.outcome(0, 1, 4), x.outcome(3, 1, 4));
        Due.is("bestRule of equals", 0, x.bestRule(1));
    }

    private static void settles() {
        RelayTuner x = Due.loaded("G01N50L0H99A+00S020");
        // Off, from 25 down by 1 a tick to 0, where it stays: 20 away.
        x.disturb(25);
        String before = Due.look(x);
        Due.is("settlesAfter(20)", 0, x.settlesAfter(20));
        Due.is("settlesAfter(19)", NONE, x.settlesAfter(19));
        x.set(5, 0);
        Due.is("settlesAfter(25)", 0, x.settlesAfter(25));
        Due.is("settlesAfter(24)", 1, x.settlesAfter(24));
        Due.is("settlesAfter(1)", 24, x.settlesAfter(1));
        Due.is("settlesAfter(0)", 25, x.settlesAfter(0));
        x.undo();
        Due.same("settlesAfter", before, Due.look(x));
        // From 100 it falls through 50, and by more than the width below it.
        x.set(5, 50);
        x.disturb(75);
        Due.is("settlesAfter(50)", 0, x.settlesAfter(50));
        Due.is("settlesAfter(49): in the width for a while alone", NONE, x.settlesAfter(49));
    }

    /** How many ticks the heater, off, at the ambient 0 and with N = 50, needs to come to rest. */
    private static int need(int temperature) {
        int ticks = 0;
        for (int t = temperature; t != 0; ticks++) {
            t -= Math.max(1, t / 50);
        }
        return ticks;
    }

    private static void settlesInTwoHundredTicks() {
        for (int ticks : new int[] {1, 98, 199, 200, 201, 250}) {
            int temperature = 0;
            while (need(temperature) < ticks) {
                temperature++;
            }
            RelayTuner x = Due.loaded("G01N50L0H99A+00S000");
            for (int left = temperature; left > 0; left -= 500) {
                x.disturb(Math.min(left, 500));
            }
            Due.is("the temperature", temperature, x.about(12));
            Due.is("settlesAfter(0) from " + temperature, need(temperature) <= 200 ? need(temperature) : NONE,
                    x.settlesAfter(0));
        }
        RelayTuner y = Due.loaded("G01N50L0H99A-99S000");
        Due.is("settlesAfter(99) at the edge", 0, y.settlesAfter(99));
        Due.is("settlesAfter(98) at the edge", NONE, y.settlesAfter(98));
    }
}

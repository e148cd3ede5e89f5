/** Promises 7, 13, 18 and 20: swing, discard, middle, toleranceFor. */
public final class SwingTest {
    private static final int NONE = RelayTuner.NONE;

    public static void main(String[] args) {
        theNewHeatersSwing();
        swingRefuses();
        highAndLow();
        aCrossingNeedsATick();
        anotherModeBreaksTheSwing();
        twentyAreKept();
        oddPeriods();
        oddSpans();
        middles();
        roundedNowhere();
        tolerances();
        tolerance99();
        discards();
        discardedLows();
        aCopyGoesOnWithTheSwing();
        Due.finish();
    }

    private static void swing(RelayTuner x, int j, int period, int high, int low, int reason, int clock) {
        Due.is("the period of " + j, period, x.swing(j, 0));
        Due.is("the high of " + j, high, x.swing(j, 1));
        Due.is("the low of " + j, low, x.swing(j, 2));
        Due.is("the reason of " + j, reason, x.swing(j, 3));
        Due.is("the clock of " + j, clock, x.swing(j, 4));
    }

    private static void theNewHeatersSwing() {
        RelayTuner x = new RelayTuner();
        x.mode(1);
        x.tick(16);
        Due.is("swings before the second crossing", 0, x.about(16));
        x.tick(1);
        Due.is("swings behind it", 1, x.about(16));
        swing(x, 0, 11, 139, 76, 1, 17);
        Due.is("good swings", 0, x.about(17));
    }

    private static void swingRefuses() {
        RelayTuner x = new RelayTuner();
        Due.badIndex("swing(0, 0) without swings", () -> x.swing(0, 0));
        Due.badIndex("swing(0, 5) without swings", () -> x.swing(0, 5));
        x.mode(1);
        x.tick(17);
        Due.badIndex("swing(1, 0)", () -> x.swing(1, 0));
        Due.badIndex("swing(-1, 0)", () -> x.swing(-1, 0));
        Due.badIndex("swing(-1, -1)", () -> x.swing(-1, -1));
        Due.badIndex("swing(20, 9)", () -> x.swing(20, 9));
        Due.badIndex("swing(the greatest int, 0)", () -> x.swing(Integer.MAX_VALUE, 0));
        Due.badIndex("swing(the least int, 0)", () -> x.swing(Integer.MIN_VALUE, 0));
        Due.badArgument("swing(0, 5)", () -> x.swing(0, 5));
        Due.badArgument("swing(0, -1)", () -> x.swing(0, -1));
    }

    private static void highAndLow() {
        RelayTuner x = Swinging.begun();
        Due.is("begun at", 39, x.about(12));
        // From 39 up to 204 and down to 0 by disturbances: they do not count, nor does the first crossing's tick.
        Swinging.add(x, 2, 4);
        swing(x, 0, 2, 200, 39, 1, 3);
        Swinging.addFlat(x, 1);
        swing(x, 1, 1, 39, 39, 0, 4);
        x.disturb(-239);
        x.tick(1);
        x.tick(6);
        // From -200 to -157, -115, -74, -33, 7 and, with the crossing, 46.
        swing(x, 2, 6, 46, -157, 2, 10);
    }

    private static void aCrossingNeedsATick() {
        RelayTuner x = Due.loaded(Swinging.HEATER);
        x.mode(1);
        x.disturb(30);
        Due.is("crossings of a disturbance", 0, x.account(5));
        x.tick(1);
        Due.is("crossings of a tick that begins at S", 0, x.account(5));
        Due.is("it was off", 29, x.about(12));
        x.tick(1);
        Due.is("crossings of a tick from 29", 1, x.account(5));
        RelayTuner z = Due.loaded("G20N50L0H99A+00S030B05");
        z.mode(1);
        z.disturb(30);
        z.tick(1);
        Due.is("on at S in the band", 69, z.about(12));
        Due.is("crossings of a tick from S up", 0, z.account(5));
        x.set(5, 999);
        x.set(5, 10);
        Due.is("crossings of a set", 1, x.account(5));
        x.disturb(10 - x.about(12));
        x.set(5, 49);
        x.tick(1);
        Due.is("from 10 to", 49, x.about(12));
        Due.is("crossings of a tick that ends at S", 2, x.account(5));
        x.disturb(10 - x.about(12));
        x.set(5, 50);
        x.tick(1);
        Due.is("crossings of a tick that ends below S", 2, x.account(5));
        RelayTuner y = Due.loaded("G20N01L0H99A+00S030");
        y.set(8, 9999);
        y.mode(2);
        y.tick(1);
        Due.is("warm in the mode 2", 1980, y.about(12));
        Due.is("crossings in the mode 2", 0, y.account(5));
    }

    private static void anotherModeBreaksTheSwing() {
        RelayTuner x = Swinging.begun();
        x.mode(0);
        x.mode(1);
        Swinging.add(x, 3, 2);
        Due.is("swings with another mode between", 0, x.about(16));
        Due.is("crossings", 2, x.account(5));
        x.mode(1);
        Swinging.add(x, 3, 2);
        Due.is("swings with mode(1) between", 1, x.about(16));
        swing(x, 0, 3, 100, 39, 1, 7);
        Swinging.add(x, 3, 2);
        x.tryRule(0);
        x.takeBack();
        Swinging.add(x, 3, 2);
        Due.is("swings with a trial between", 2, x.about(16));
        x.mode(2);
        x.tick(3);
        x.mode(1);
        Swinging.add(x, 3, 2);
        Due.is("swings with ticks of the mode 2 between", 2, x.about(16));
        Swinging.add(x, 4, 2);
        Due.is("swings behind that", 3, x.about(16));
        Due.is("the period of the last one", 4, x.swing(2, 0));
    }

    private static void twentyAreKept() {
        RelayTuner x = Swinging.begun();
        for (int k = 1; k <= 20; k++) {
            Swinging.addFlat(x, k);
            Due.is("swings", k, x.about(16));
        }
        Due.is("the oldest one", 1, x.swing(0, 0));
        Due.is("the newest one", 20, x.swing(19, 0));
        int clock = x.about(13);
        Swinging.addFlat(x, 7);
        Due.is("swings behind one more", 20, x.about(16));
        for (int j = 0; j < 19; j++) {
            Due.is("the period of " + j, j + 2, x.swing(j, 0));
        }
        Due.is("the newest one", 7, x.swing(19, 0));
        Due.is("its clock", clock + 7, x.swing(19, 4));
        Due.is("the oldest one is odd", 1, x.swing(0, 3));
        Due.badIndex("swing(20, 0)", () -> x.swing(20, 0));
    }

    // The number 0 has another period: it must not be in the middle.
    private static void oddPeriods() {
        RelayTuner x = Swinging.begun();
        for (int period : new int[] {9, 5, 6, 4, 5, 7, 3}) {
            Swinging.add(x, period, 2);
        }
        Due.is("the middle period of 3 4 5 5 6 7", 5, x.middle(false));
        reasons(x, 20, 1, 0, 0, 0, 0, 2, 2);
        reasons(x, 19, 1, 0, 2, 2, 0, 2, 2);
        reasons(x, 39, 1, 0, 0, 0, 0, 2, 2);
        reasons(x, 40, 1, 0, 0, 0, 0, 0, 0);
        reasons(x, 0, 1, 0, 2, 2, 0, 2, 2);
    }

    private static void reasons(RelayTuner x, int tolerance, int... due) {
        x.set(7, tolerance);
        int good = 0;
        for (int j = 0; j < due.length; j++) {
            Due.is("the reason of " + j + " with the tolerance " + tolerance, due[j], x.swing(j, 3));
            if (due[j] == 0) {
                good++;
            }
        }
        Due.is("good swings with the tolerance " + tolerance, good, x.about(17));
    }

    // Spans 61, 111, 11: 50 * 100 is more than 81 * 61 and less than 82 * 61.
    private static void oddSpans() {
        RelayTuner x = Swinging.begun();
        Swinging.add(x, 4, 8);
        Swinging.add(x, 4, 2);
        Swinging.add(x, 4, 3);
        Swinging.add(x, 4, 1);
        Swinging.add(x, 9, 3);
        Swinging.add(x, 4, 1);
        Due.is("the middle span of 11 11 61 111 111", 61, x.middle(true));
        Due.is("the middle period of 4 4 4 4 9", 4, x.middle(false));
        reasons(x, 81, 1, 0, 3, 3, 2, 3);
        reasons(x, 82, 1, 0, 0, 0, 2, 0);
        reasons(x, 0, 1, 0, 3, 3, 2, 3);
        Due.is("the least tolerance for 1", 0, x.toleranceFor(1));
        Due.is("the least tolerance for 2", 82, x.toleranceFor(2));
        Due.is("the least tolerance for 4", 82, x.toleranceFor(4));
        Due.is("the least tolerance for 5: 125 percent", NONE, x.toleranceFor(5));
    }

    private static void middles() {
        RelayTuner x = Swinging.begun();
        Due.is("the middle of no swing", NONE, x.middle(false));
        Swinging.add(x, 9, 1);
        Due.is("the middle of number 0 alone", NONE, x.middle(false));
        Due.is("its span", NONE, x.middle(true));
        Swinging.add(x, 4, 4);
        Due.is("the middle of 4", 4, x.middle(false));
        Due.is("the middle of 161", 161, x.middle(true));
        Swinging.add(x, 2, 3);
        Due.is("the middle of 4 2", 2, x.middle(false));
        Due.is("the middle of 161 111", 111, x.middle(true));
        Swinging.add(x, 7, 2);
        Due.is("the middle of 4 2 7", 4, x.middle(false));
        Due.is("the middle of 161 111 61", 111, x.middle(true));
        Swinging.add(x, 6, 8);
        Due.is("the middle of 4 2 7 6", 4, x.middle(false));
        Due.is("the middle of 161 111 61 361", 111, x.middle(true));
        x.discard(0);
        Due.is("the middle of 2 7 6", 6, x.middle(false));
        Due.is("the middle of 111 61 361", 111, x.middle(true));
    }

    // 1 of 33 is more than 3 percent, by 100 against 99; 50 of 111 more than 45 percent, by 5000 against 4995.
    private static void roundedNowhere() {
        RelayTuner x = Swinging.begun();
        for (int period : new int[] {9, 33, 33, 34, 32}) {
            Swinging.add(x, period, 8);
        }
        Due.is("the middle period of 33 33 34 32", 33, x.middle(false));
        reasons(x, 3, 1, 0, 0, 2, 2);
        reasons(x, 4, 1, 0, 0, 0, 0);
        RelayTuner y = Swinging.begun();
        for (int k : new int[] {8, 3, 3, 4, 2}) {
            Swinging.add(y, 4, k);
        }
        Due.is("the middle span of 111 111 161 61", 111, y.middle(true));
        reasons(y, 45, 1, 0, 0, 3, 3);
        reasons(y, 46, 1, 0, 0, 0, 0);
    }

    private static void tolerances() {
        RelayTuner x = Swinging.begun();
        Due.badArgument("toleranceFor(0)", () -> x.toleranceFor(0));
        Due.badArgument("toleranceFor(21)", () -> x.toleranceFor(21));
        Due.badArgument("toleranceFor(-1)", () -> x.toleranceFor(-1));
        Due.is("the least tolerance without swings", NONE, x.toleranceFor(1));
        Swinging.add(x, 5, 2);
        Due.is("the least tolerance with one swing", NONE, x.toleranceFor(1));
        for (int period : new int[] {5, 6, 4, 5, 7, 9}) {
            Swinging.add(x, period, 2);
        }
        // The middle of 4 5 5 6 7 9 is 5: off by 20, 0, 0, 20, 40 and 80 percent.
        int[] due = {0, 0, 20, 20, 40, 80, NONE};
        String before = Due.look(x);
        for (int n = 1; n <= due.length; n++) {
            Due.is("toleranceFor(" + n + ")", due[n - 1], x.toleranceFor(n));
        }
        Due.is("toleranceFor(20)", NONE, x.toleranceFor(20));
        Due.same("toleranceFor", before, Due.look(x));
        for (int k = 0; k < 20; k++) {
            Swinging.add(x, 5, 2);
        }
        Due.is("toleranceFor(19) of twenty", 0, x.toleranceFor(19));
        Due.is("toleranceFor(20) of twenty", NONE, x.toleranceFor(20));
    }

    // The periods 100 and 199, and the spans are the same.
    private static void tolerance99() {
        RelayTuner x = Swinging.begun();
        Swinging.add(x, 9, 8);
        Swinging.add(x, 100, 8);
        x.disturb(408 - x.about(12));
        x.tick(99);
        x.disturb(400 - x.about(12));
        x.tick(99);
        x.disturb(-x.about(12));
        x.tick(1);
        Due.is("the period", 199, x.swing(2, 0));
        Due.is("the middle period of 100 199", 100, x.middle(false));
        Due.is("the spans", x.middle(true), x.swing(2, 1) - x.swing(2, 2));
        Due.is("toleranceFor(2)", 99, x.toleranceFor(2));
        reasons(x, 98, 1, 0, 2);
        reasons(x, 99, 1, 0, 0);
    }

    // The swing that is discarded has left nothing behind, and every number of the later ones has come along.
    private static void discardedLows() {
        RelayTuner x = Swinging.begun();
        Swinging.add(x, 5, 2);
        for (int low = 1; low <= 4; low++) {
            x.disturb(51 - x.about(12));
            x.tick(3);
            x.disturb(-41 - low - x.about(12));
            x.tick(1);
            Due.is("down at", -1 - low, x.about(12));
            x.tick(1);
        }
        Due.is("the low of 1", -2, x.swing(1, 2));
        Due.is("discard(1)", 5, x.discard(1));
        for (int j = 1; j <= 3; j++) {
            swing(x, j, 5, 50, -2 - j, 0, 11 + 5 * j);
        }
        Due.is("good swings", 3, x.about(17));
        Due.is("discard(3)", 5, x.discard(3));
        Due.is("good swings", 2, x.about(17));
        Due.is("discard(0)", 5, x.discard(0));
        Due.is("good swings", 1, x.about(17));
        Due.is("discard(1)", 5, x.discard(1));
        Due.is("good swings", 0, x.about(17));
    }

    private static void aCopyGoesOnWithTheSwing() {
        RelayTuner x = Swinging.begun();
        x.disturb(-239);
        x.tick(1);
        x.disturb(461);
        x.tick(1);
        x.save(0);
        x.restore(0);
        x.tick(1);
        x.undo();
        x.disturb(-298);
        x.tick(1);
        swing(x, 0, 3, 298, -157, 1, 4);
        Due.is("behind the swing, so that the next one has its own numbers", 39, x.about(12));
    }

    private static void discards() {
        RelayTuner x = Swinging.begun();
        Due.badIndex("discard(0) without swings", () -> x.discard(0));
        for (int period = 2; period <= 6; period++) {
            Swinging.add(x, period, period);
        }
        String before = Due.look(x);
        Due.badIndex("discard(5)", () -> x.discard(5));
        Due.badIndex("discard(-1)", () -> x.discard(-1));
        Due.same("refused discards", before, Due.look(x));
        Due.is("discard(1)", 3, x.discard(1));
        Due.is("swings", 4, x.about(16));
        swing(x, 0, 2, 100, 39, 1, 3);
        Due.is("the period of 1", 4, x.swing(1, 0));
        Due.is("the high of 1", 200, x.swing(1, 1));
        Due.is("the clock of 1", 10, x.swing(1, 4));
        Due.is("the period of 2", 5, x.swing(2, 0));
        Due.is("discard(3)", 6, x.discard(3));
        Due.is("discard(0)", 2, x.discard(0));
        Due.is("the period of 0", 4, x.swing(0, 0));
        Due.is("the reason of 0", 1, x.swing(0, 3));
        Due.is("swings", 2, x.about(16));
        Due.badIndex("swing(2, 0)", () -> x.swing(2, 0));
        Due.is("crossings are not forgotten", 6, x.account(5));
        Swinging.add(x, 3, 1);
        Due.is("the swing that was going on", 3, x.swing(2, 0));
    }
}

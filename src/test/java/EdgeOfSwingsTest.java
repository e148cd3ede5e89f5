/** Promises 7, 13, 18 and 20 and the section SWINGS: a test for each sentence that names an edge. */
public final class EdgeOfSwingsTest {
    private static final int NONE = RelayTuner.NONE;
    /** On it comes to 100 by halves, off to 0. */
    private static final String HALF = "G02N02L0H50A+00S010B05";

    public static void main(String[] args) {
        lessThanSBefore();
        atLeastSBehind();
        asSIsThen();
        inTheMode1();
        twoCrossings();
        withoutAnotherModeBetween();
        alsoWithoutATick();
        stateOfASwingThatGoesOn();
        periods();
        highs();
        lows();
        disturbancesDoNotCount();
        atMostTwenty();
        theOldestIsForgotten();
        numbersOfASwing();
        clockOfTheSecondCrossing();
        Due.finish();
    }

    private static RelayTuner inMode1(String text, int temperature) {
        RelayTuner x = Due.loaded(text);
        x.mode(1);
        Due.heat(x, temperature);
        return x;
    }

    private static void crossings(String when, int due, RelayTuner x) {
        Due.is("crossings " + when, due, x.account(5));
    }

    private static void lessThanSBefore() {
        Due.words("a crossing is a tick in which the temperature was less than S before");
        RelayTuner x = inMode1(HALF, 9);
        Due.is("a tick from S - 1", 54, x.tick(1));
        crossings("of a tick from S - 1", 1, x);
        RelayTuner y = inMode1(HALF, 10);
        Due.is("a tick from S", 55, y.tick(1));
        crossings("of a tick from S", 0, y);
        RelayTuner z = inMode1(HALF, 11);
        Due.is("a tick from S + 1", 55, z.tick(1));
        crossings("of a tick from S + 1", 0, z);
        RelayTuner u = inMode1(HALF, -9999);
        u.tick(6);
        crossings("of a long way below S", 0, u);
        u.tick(1);
        crossings("of the tick that ends above it", 1, u);
    }

    // From 9 the tick comes to 54.
    private static void atLeastSBehind() {
        Due.words("and is at least S (as it is then) behind it");
        for (int s : new int[] {53, 54, 55, 56}) {
            RelayTuner x = inMode1(HALF, 9);
            x.set(5, s);
            Due.is("the temperature behind the tick", 54, x.tick(1));
            crossings("of a tick to 54 with S = " + s, s <= 54 ? 1 : 0, x);
        }
    }

    private static void asSIsThen() {
        Due.words("(as it is then)");
        RelayTuner x = inMode1(HALF, 9);
        x.set(5, 100);
        x.tick(1);
        Due.is("below S", 54, x.about(12));
        x.set(5, 54);
        crossings("of a set point that comes down", 0, x);
        x.tick(1);
        crossings("of a tick that began at the new S", 0, x);
        RelayTuner y = inMode1(HALF, 9);
        y.set(5, 100);
        y.tick(1);
        y.set(5, 77);
        Due.is("the next tick", 77, y.tick(1));
        crossings("of a tick that ends at the new S", 1, y);
        RelayTuner z = inMode1(HALF, 9);
        z.set(5, 54);
        z.set(5, 60);
        z.tick(1);
        crossings("of a tick that ends at an S of before", 0, z);
        z.set(5, 50);
        z.tick(1);
        crossings("of a tick that began below an S of before", 0, z);
    }

    private static void inTheMode1() {
        Due.words("In the mode 1, a crossing is ..");
        for (int mode = 0; mode <= 2; mode++) {
            RelayTuner x = Due.loaded("G01N01L0H01A+99S050");
            x.mode(mode);
            Due.heat(x, 0);
            x.tick(1);
            Due.is("warmer than S in the mode " + mode, 1, x.about(12) >= 99 ? 1 : 0);
            crossings("in the mode " + mode, mode == 1 ? 1 : 0, x);
            Due.heat(x, 0);
            x.tick(1);
            Due.is("swings in the mode " + mode, mode == 1 ? 1 : 0, x.about(16));
        }
    }

    private static void twoCrossings() {
        Due.words("Two crossings that follow each other make a swing");
        RelayTuner x = Made.begun();
        Due.is("swings behind one crossing", 0, x.about(16));
        Made.swing(x, 3, 4);
        Due.is("swings behind two", 1, x.about(16));
        Made.swing(x, 3, 4);
        Due.is("swings behind three: the second one begins the next", 2, x.about(16));
        crossings("in all", 3, x);
    }

    private static void withoutAnotherModeBetween() {
        Due.words("without another mode between them");
        for (int other : new int[] {0, 2}) {
            RelayTuner x = Made.ofPeriods(6, 5);
            x.mode(other);
            x.tick(3);
            x.mode(1);
            Made.swing(x, 5, 6);
            Due.is("swings with ticks of the mode " + other + " between", 1, x.about(16));
            Made.swing(x, 4, 6);
            Due.is("swings behind that", 2, x.about(16));
            Due.is("its period", 4, x.swing(1, 0));
        }
        RelayTuner y = Made.ofPeriods(6, 5);
        y.mode(1);
        Due.badArgument("mode(3)", () -> y.mode(3));
        y.set(5, 100);
        y.set(5, 1);
        Made.swing(y, 5, 6);
        Due.is("swings with mode(1), a refused mode and sets between", 2, y.about(16));
        RelayTuner z = Made.ofPeriods(6, 5, 5);
        z.tryRule(0);
        z.takeBack();
        Made.swing(z, 5, 6);
        Due.is("swings with a trial between", 2, z.about(16));
        z.tryRule(0);
        z.mode(1);
        Made.swing(z, 5, 6);
        z.tick(1);
        int swings = z.about(16);
        z.takeBack();
        Made.swing(z, 5, 6);
        Due.is("swings with a trial between that is taken back to the mode there is", swings + 1, z.about(16));
    }

    private static void alsoWithoutATick() {
        Due.words("(also one without a tick)");
        for (int other : new int[] {0, 2}) {
            RelayTuner x = Made.ofPeriods(6, 5);
            x.tick(1);
            x.mode(other);
            x.mode(1);
            Made.swing(x, 5, 6);
            Due.is("swings with the mode " + other + " between, without a tick", 1, x.about(16));
            crossings("in all", 3, x);
        }
    }

    private static void stateOfASwingThatGoesOn() {
        Due.words("undo: Takes back the last action that is remembered.");
        RelayTuner x = Made.begun();
        x.mode(0);
        x.undo();
        Made.swing(x, 5, 6);
        Due.is("swings with a mode(0) that was taken back", 1, x.about(16));
        RelayTuner y = Made.begun();
        Due.heat(y, 50);
        y.tick(3);
        y.save(0);
        y.mode(0);
        y.tick(9);
        y.restore(0);
        Made.swing(y, 5, 6);
        Due.is("the period of a swing that was saved and restored", 8, y.swing(0, 0));
        Due.is("its high", 49, y.swing(0, 1));
    }

    private static void periods() {
        Due.words("its period is the number of ticks from the one to the other");
        RelayTuner x = Made.begun();
        for (int period : new int[] {1, 2, 3, 50, 300}) {
            Made.swing(x, period, period == 1 ? 0 : 40);
            Due.is("the period", period, x.swing(x.about(16) - 1, 0));
        }
        x.disturb(50);
        x.disturb(-51);
        x.set(5, 1);
        x.tick(1);
        Due.is("the period of a swing with disturbances and sets: ticks alone", 1, x.swing(5, 0));
    }

    // 54 behind the first crossing's tick, then 27, then 52 from 4: the first one is no high, the second one is.
    private static void highs() {
        Due.words("its high and low are the greatest and the smallest temperature behind the ticks after the first "
            + "crossing, up to that of the second one");
        RelayTuner x = inMode1("G02N02L0H50A+00S010B00", 9);
        Due.is("the first crossing", 54, x.tick(1));
        Due.is("off", 27, x.tick(1));
        Due.heat(x, 4);
        Due.is("the second crossing", 52, x.tick(1));
        Due.is("the high", 52, x.swing(0, 1));
        Due.is("the low", 27, x.swing(0, 2));
        Due.heat(x, 202);
        Due.is("off", 101, x.tick(1));
        Due.heat(x, 4);
        Due.is("the third crossing", 52, x.tick(1));
        Due.is("the high", 101, x.swing(1, 1));
        Due.is("the low", 52, x.swing(1, 2));
        Due.heat(x, 6);
        Due.is("the fourth crossing", 53, x.tick(1));
        Due.is("the high of a period of 1", 53, x.swing(2, 1));
        Due.is("the low of a period of 1", 53, x.swing(2, 2));
    }

    private static void lows() {
        Due.words("the smallest temperature behind the ticks after the first crossing");
        RelayTuner x = inMode1("G02N02L0H50A+00S010B00", -80);
        Due.is("a tick before the first crossing is no low", 10, x.tick(1));
        x.tick(1);
        Due.heat(x, -300);
        Due.is("on", -100, x.tick(1));
        Due.is("on", 0, x.tick(1));
        Due.is("the second crossing", 50, x.tick(1));
        Due.is("the low", -100, x.swing(0, 2));
        Due.is("the high", 50, x.swing(0, 1));
        Due.heat(x, -9999);
        x.tick(1);
        Due.heat(x, 9999);
        x.tick(1);
        Due.heat(x, 0);
        x.tick(1);
        Due.is("the lowest low", -9999 + (100 + 9999) / 2, x.swing(1, 2));
        Due.is("the highest high", 9999 - 9999 / 2, x.swing(1, 1));
    }

    private static void disturbancesDoNotCount() {
        Due.words("(a disturbance by itself does not count)");
        RelayTuner x = Made.begun();
        x.disturb(500);
        x.disturb(-500);
        x.disturb(-500);
        Due.heat(x, 31);
        x.tick(1);
        Due.heat(x, 0);
        x.tick(1);
        Due.is("the high", 30, x.swing(0, 1));
        Due.is("the low", 1, x.swing(0, 2));
    }

    private static void atMostTwenty() {
        Due.words("At most 20 swings are kept, numbered from the oldest one on");
        RelayTuner x = Made.begun();
        for (int k = 1; k <= 20; k++) {
            Made.swing(x, 1 + k, 3 * k);
            Due.is("swings", k, x.about(16));
        }
        for (int j = 0; j < 20; j++) {
            Due.is("the period of " + j, j + 2, x.swing(j, 0));
            Due.is("the high of " + j, 3 * j + 4, x.swing(j, 1));
        }
        Made.swing(x, 7, 5);
        Due.is("swings behind one more", 20, x.about(16));
        Due.badIndex("swing(20, 0)", () -> x.swing(20, 0));
        x.discard(19);
        Made.swing(x, 8, 5);
        Due.is("swings behind a discard and one more", 20, x.about(16));
        Due.is("none was forgotten: the oldest one", 3, x.swing(0, 0));
        Due.is("the newest one", 8, x.swing(19, 0));
    }

    private static void theOldestIsForgotten() {
        Due.words("when one more is made, the oldest one is forgotten");
        RelayTuner x = Made.begun();
        for (int k = 1; k <= 20; k++) {
            Made.swing(x, 1 + k, k);
        }
        int clock = x.about(13);
        for (int more = 1; more <= 3; more++) {
            Made.swing(x, 40, 25);
            clock += 40;
            for (int j = 0; j < 20; j++) {
                int k = j + 1 + more;
                Due.is("the period of " + j, k <= 20 ? 1 + k : 40, x.swing(j, 0));
                Due.is("the high of " + j, k <= 20 ? 1 + k : 26, x.swing(j, 1));
                Due.is("the low of " + j, 1, x.swing(j, 2));
            }
            Due.is("the clock of the newest one", clock, x.swing(19, 4));
            Due.is("the clock of the one before", clock - 40, x.swing(18, 4));
            Due.is("number 0 is odd", 1, x.swing(0, 3));
        }
        x.undo();
        Due.is("undo() of the last tick brings the oldest one back", 4, x.swing(0, 0));
    }

    private static void numbersOfASwing() {
        Due.words("swing: IndexOutOfBoundsException if there is no such swing");
        RelayTuner x = Made.ofPeriods(6, 3, 4);
        Due.is("swing(0, 0)", 3, x.swing(0, 0));
        Due.is("swing(1, 0)", 4, x.swing(1, 0));
        for (int j : new int[] {-1, 2, 19, 20, 21, Integer.MIN_VALUE, Integer.MAX_VALUE}) {
            Refused.index("swing(" + j + ", 0)", () -> Made.ofPeriods(6, 3, 4), y -> y.swing(j, 0));
            Refused.index("swing(" + j + ", 0)", RelayTuner::new, y -> y.swing(j, 0));
        }
        Refused.index("swing(0, 0) without swings", RelayTuner::new, y -> y.swing(0, 0));
        Due.words("swing: IllegalArgumentException if what is not 0 to 4");
        for (int what : new int[] {-1, 5, Integer.MIN_VALUE, Integer.MAX_VALUE}) {
            Refused.argument("swing(1, " + what + ")", Full::inRelay, y -> y.swing(1, what));
        }
        Due.words("If several exceptions apply to a call, the one that its description names first is thrown.");
        Refused.index("swing(-1, 5)", Full::inRelay, y -> y.swing(-1, 5));
        Refused.index("swing(20, -1)", Full::inRelay, y -> y.swing(20, -1));
        Refused.index("swing(0, 5) without swings", RelayTuner::new, y -> y.swing(0, 5));
        for (int what = 0; what <= 4; what++) {
            int w = what;
            Refused.nothing("swing(1, " + w + ")", Full::inRelay, y -> y.swing(1, w));
        }
    }

    private static void clockOfTheSecondCrossing() {
        Due.words("4: the clock behind the tick of its second crossing");
        RelayTuner x = Made.ofPeriods(6, 3, 1);
        Due.is("swing(0, 4)", 4, x.swing(0, 4));
        Due.is("swing(1, 4)", 5, x.swing(1, 4));
        x.tick(7);
        x.discard(0);
        Due.is("swing(0, 4) of what was number 1", 5, x.swing(0, 4));
    }
}

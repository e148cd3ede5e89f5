/** Promises 6, 8, 9 and 12 and the section THE HEATER: a test for each sentence that names an edge. */
public final class EdgeOfHeaterTest {
    /** Off, it comes to 0 by an eighth of the temperature. */
    private static final String EIGHTH = "G01N08L0H99A+00";

    public static void main(String[] args) {
        theRange();
        leastAndGreatestHeaters();
        thePipe();
        beforeTheFirstTick();
        roundedTowardZero();
        changesOnlyIfDifferent();
        numbersOfAnObject();
        theLastOutput();
        accountsAsked();
        outputsInAccount();
        ticksInAMode();
        sinceLoaded();
        ticksAtOnce();
        oneAction();
        disturbances();
        byZeroToo();
        withinItsRange();
        neverACrossing();
        Due.finish();
    }

    private static RelayTuner at(String text, int temperature) {
        RelayTuner x = Due.loaded(text);
        Due.heat(x, temperature);
        return x;
    }

    private static void theRange() {
        Due.words("The temperature is a whole number of tenths, from -9999 to 9999.");
        RelayTuner x = at(EIGHTH, 9998);
        Due.is("the temperature", 9998, x.about(12));
        Due.is("disturb(1)", 9999, x.disturb(1));
        Due.is("disturb(1) once more", 9999, x.disturb(1));
        Due.is("about(12)", 9999, x.about(12));
        Due.is("disturb(-1)", 9998, x.disturb(-1));
        Due.is("disturb(500)", 9999, x.disturb(500));
        RelayTuner y = at(EIGHTH, -9998);
        Due.is("the temperature", -9998, y.about(12));
        Due.is("disturb(-1)", -9999, y.disturb(-1));
        Due.is("disturb(-1) once more", -9999, y.disturb(-1));
        Due.is("about(12)", -9999, y.about(12));
        Due.is("disturb(1)", -9998, y.disturb(1));
        Due.is("disturb(-500)", -9999, y.disturb(-500));
        Due.is("a tick from the top", 9999 - 9999 / 8, at(EIGHTH, 9999).tick(1));
        Due.is("a tick from the bottom", -9999 + 9999 / 8, at(EIGHTH, -9999).tick(1));
        Due.is("a tick from the top to the rest level", 99, at("G01N01L0H99A+99", 9999).tick(1));
        Due.is("a tick from the bottom to the rest level", -99, at("G01N01L0H99A-99", -9999).tick(1));
    }

    private static void leastAndGreatestHeaters() {
        Due.words("The plant has a gain G, 1 to 20, an inertia N, 1 to 50, a delay L, 0 to 9, an ambient A, -99 to 99, "
            + "and a full power H, 1 to 99.");
        RelayTuner x = Due.loaded("G20N01L0H99A+99S999");
        x.mode(1);
        Due.is("the greatest rest level", 99 + 20 * 99, x.tick(1));
        RelayTuner y = Due.loaded("G01N01L0H01A-99S999");
        y.mode(1);
        Due.is("the least power", -98, y.tick(1));
        RelayTuner z = Due.loaded("G20N50L9H99A-99S999");
        z.mode(1);
        Due.is("nine ticks of the longest delay", -99, z.tick(9));
        Due.is("the tenth, by a fiftieth", -99 + 1980 / 50, z.tick(1));
    }

    // P = 100 makes the output of the control S - temperature, so that each tick has an output of its own.
    private static void thePipe() {
        Due.words("the power that works is the output of L ticks before (that of this tick, if L is 0; before the "
            + "first tick all outputs are 0)");
        for (int delay = 0; delay <= 9; delay++) {
            RelayTuner x = Due.loaded("G01N01L" + delay + "H99A+00");
            x.set(8, 100);
            x.mode(2);
            int[] outputs = new int[45];
            for (int k = 0; k < 45; k++) {
                outputs[k] = 1 + k * 37 % 98;
                x.set(5, x.about(12) + outputs[k]);
                int due = k < delay ? 0 : outputs[k - delay];
                Due.is("tick " + (k + 1) + " with the delay " + delay, due, x.tick(1));
                Due.is("its output", outputs[k], x.about(19));
            }
        }
    }

    private static void beforeTheFirstTick() {
        Due.words("before the first tick all outputs are 0");
        for (int delay = 0; delay <= 9; delay++) {
            RelayTuner x = Due.loaded("G02N01L" + delay + "H30A+05S900");
            x.mode(1);
            for (int k = 1; k <= delay; k++) {
                Due.is("tick " + k + " with the delay " + delay, 5, x.tick(1));
            }
            Due.is("the first tick with power", 65, x.tick(1));
        }
    }

    private static void roundedTowardZero() {
        Due.words("The temperature changes by (rest level - temperature) / N, rounded toward 0, but by at least 1 "
            + "(up or down) if they are different");
        int[][] ticks = {{-17, -15}, {-16, -14}, {-15, -14}, {-9, -8}, {-8, -7}, {-7, -6}, {-2, -1}, {-1, 0}, {0, 0},
            {1, 0}, {2, 1}, {7, 6}, {8, 7}, {9, 8}, {15, 14}, {16, 14}, {17, 15}, {23, 21}, {24, 21}};
        for (int[] tick : ticks) {
            Due.is("a tick from " + tick[0], tick[1], at(EIGHTH, tick[0]).tick(1));
        }
        Due.is("at once with N = 1", 0, at("G01N01L0H99A+00", 777).tick(1));
        Due.is("by 1 with N = 50", 98, at("G01N50L0H99A+00", 99).tick(1));
        Due.is("by 2 with N = 50", 98, at("G01N50L0H99A+00", 100).tick(1));
    }

    private static void changesOnlyIfDifferent() {
        Due.words("but by at least 1 (up or down) if they are different");
        RelayTuner x = at(EIGHTH, 0);
        Due.is("200 ticks at rest", 0, x.tick(200));
        RelayTuner y = at("G01N50L0H99A+00", 99);
        Due.is("99 ticks", 0, y.tick(99));
        Due.is("and one more", 0, y.tick(1));
        RelayTuner z = at("G01N50L0H99A+00", -99);
        Due.is("98 ticks", -1, z.tick(98));
        Due.is("and two more", 0, z.tick(2));
    }

    private static void numbersOfAnObject() {
        Due.words("about: IllegalArgumentException if what is not 0 to 19");
        int[] due = {10, 8, 2, 20, 20, 100, 3, 20, 50, 0, 0, 0, 20, 0, 0, 0, 0, 0, 0, 0};
        RelayTuner x = new RelayTuner();
        for (int what = 0; what <= 19; what++) {
            int w = what;
            Due.is("about(" + what + ")", due[what], x.about(what));
            Refused.nothing("about(" + w + ")", y -> y.about(w));
        }
        for (int what : new int[] {-1, 20, Integer.MIN_VALUE, Integer.MAX_VALUE}) {
            Refused.argument("about(" + what + ")", y -> y.about(what));
        }
    }

    private static void theLastOutput() {
        Due.words("19: the output of the last tick (0 before the first one)");
        RelayTuner x = Due.loaded("G10N08L2H77");
        Due.is("about(19) before the first tick", 0, x.about(19));
        x.mode(1);
        Due.is("about(19) with the relay on, before the first tick", 0, x.about(19));
        x.tick(1);
        Due.is("about(19) behind it", 77, x.about(19));
        x.mode(0);
        Due.is("about(19) behind mode(0)", 77, x.about(19));
        x.tick(1);
        Due.is("about(19) behind a tick of the mode 0", 0, x.about(19));
        x.undo();
        Due.is("about(19) behind undo()", 77, x.about(19));
        x.load();
        Due.is("about(19) behind load()", 0, x.about(19));
    }

    private static void accountsAsked() {
        Due.words("account: IllegalArgumentException if what is not 0 to 6");
        for (int what = 0; what <= 6; what++) {
            int w = what;
            Due.is("account(" + what + ") of a new object", 0, new RelayTuner().account(what));
            Refused.nothing("account(" + w + ")", y -> y.account(w));
        }
        for (int what : new int[] {-1, 7, Integer.MIN_VALUE, Integer.MAX_VALUE}) {
            Refused.argument("account(" + what + ")", y -> y.account(what));
        }
    }

    private static void outputsInAccount() {
        Due.words("4: how often the output was another one than in the tick before (0 before the first tick)");
        RelayTuner x = new RelayTuner();
        x.tick(1);
        Due.is("account(4) behind a first tick with 0", 0, x.account(4));
        RelayTuner y = new RelayTuner();
        y.mode(1);
        y.tick(1);
        Due.is("account(4) behind a first tick with 20", 1, y.account(4));
        y.tick(6);
        Due.is("account(4) behind six more", 1, y.account(4));
        y.tick(1);
        Due.is("account(4) behind the first one off", 2, y.account(4));
        Due.words("3: the sum of all outputs");
        Due.is("account(3)", 7 * 20, y.account(3));
        RelayTuner z = Due.loaded("G01N01L0H99A+00");
        z.set(8, 100);
        z.mode(2);
        for (int k = 1; k <= 5; k++) {
            z.set(5, z.about(12) + k);
            z.tick(1);
        }
        Due.is("account(3) of 1 2 3 4 5", 15, z.account(3));
        Due.is("account(4) of 1 2 3 4 5", 5, z.account(4));
        Due.is("account(4) does not count sets and modes", 5, z.account(2));
    }

    private static void ticksInAMode() {
        Due.words("0 to 2: ticks in this mode");
        RelayTuner x = new RelayTuner();
        for (int mode = 0; mode <= 2; mode++) {
            x.mode(mode);
            x.tick(200);
            x.mode((mode + 1) % 3);
            x.mode(mode);
            x.tick(mode + 1);
        }
        for (int mode = 0; mode <= 2; mode++) {
            Due.is("account(" + mode + ")", 201 + mode, x.account(mode));
        }
        Due.is("the clock", 606, x.about(13));
    }

    private static void sinceLoaded() {
        Due.words("account: Returns an account since the object was created or loaded.");
        RelayTuner x = Full.inRelay();
        for (int what = 0; what <= 6; what++) {
            int least = what == 0 ? 0 : 1;
            Due.is("account(" + what + ") is something", 1, x.account(what) >= least ? 1 : 0);
        }
        Due.type(x, "G10N08L2H20");
        x.load();
        for (int what = 0; what <= 6; what++) {
            Due.is("account(" + what + ") behind load()", 0, x.account(what));
        }
    }

    private static void ticksAtOnce() {
        Due.words("tick: number of ticks, 1 to 200");
        for (int m : new int[] {1, 2, 199, 200}) {
            RelayTuner x = new RelayTuner();
            RelayTuner y = new RelayTuner();
            x.mode(1);
            y.mode(1);
            int behind = x.tick(m);
            Due.is("the clock behind tick(" + m + ")", m, x.about(13));
            Due.is("the temperature that tick(" + m + ") answers", x.about(12), behind);
            for (int k = 0; k < m; k++) {
                y.tick(1);
            }
            Due.same("tick(" + m + ")", Due.look(y), Due.look(x));
        }
        for (int m : new int[] {0, 201, -1, Integer.MIN_VALUE, Integer.MAX_VALUE}) {
            Refused.argument("tick(" + m + ")", x -> x.tick(m));
        }
    }

    private static void oneAction() {
        Due.words("(Together they are one action.)");
        RelayTuner x = new RelayTuner();
        x.mode(1);
        x.tick(200);
        Due.is("undo() of 200 ticks", 1, x.undo());
        Due.is("the clock", 0, x.about(13));
        Due.is("the mode", 1, x.about(11));
    }

    private static void disturbances() {
        Due.words("disturb: tenths: -500 to 500");
        for (int tenths : new int[] {-500, -499, -1, 1, 499, 500}) {
            RelayTuner x = new RelayTuner();
            Due.is("disturb(" + tenths + ")", 20 + tenths, x.disturb(tenths));
            Due.is("about(12) behind it", 20 + tenths, x.about(12));
            Due.is("disturbances", 1, x.account(6));
            Due.is("the clock", 0, x.about(13));
        }
        for (int tenths : new int[] {-501, 501, Integer.MIN_VALUE, Integer.MAX_VALUE}) {
            Refused.argument("disturb(" + tenths + ")", x -> x.disturb(tenths));
        }
    }

    private static void byZeroToo() {
        Due.words("the temperature changes by some tenths (also by 0)");
        RelayTuner x = new RelayTuner();
        Due.is("disturb(0)", 20, x.disturb(0));
        Due.is("disturb(0) is counted", 1, x.account(6));
        Due.is("disturb(0) is remembered", 0, x.undo());
        Due.is("and taken back", 0, x.account(6));
    }

    private static void withinItsRange() {
        Due.words("disturb: the temperature changes by some tenths, within its range");
        Due.is("disturb(500) from 9499", 9999, at(EIGHTH, 9499).disturb(500));
        Due.is("disturb(500) from 9500", 9999, at(EIGHTH, 9500).disturb(500));
        Due.is("disturb(499) from 9499", 9998, at(EIGHTH, 9499).disturb(499));
        Due.is("disturb(-500) from -9499", -9999, at(EIGHTH, -9499).disturb(-500));
        Due.is("disturb(-500) from -9500", -9999, at(EIGHTH, -9500).disturb(-500));
        Due.is("disturb(-499) from -9499", -9998, at(EIGHTH, -9499).disturb(-499));
        RelayTuner x = at(EIGHTH, 9999);
        int before = x.account(6);
        x.disturb(500);
        Due.is("one that changes nothing is counted", before + 1, x.account(6));
    }

    // S = 100: the disturbance comes to it, and the tick behind it begins there.
    private static void neverACrossing() {
        Due.words("(This by itself is never a crossing.)");
        RelayTuner x = new RelayTuner();
        x.mode(1);
        Due.heat(x, 99);
        Due.is("disturb(1) to S", 100, x.disturb(1));
        Due.is("crossings", 0, x.account(5));
        x.tick(1);
        Due.is("crossings behind a tick that began at S", 0, x.account(5));
        x.disturb(-300);
        x.disturb(500);
        Due.is("crossings of a long way up", 0, x.account(5));
        Due.is("swings", 0, x.about(16));
    }
}

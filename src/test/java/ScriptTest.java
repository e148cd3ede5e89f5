/** Promises 25 and 26: runScript and simulate. */
public final class ScriptTest {
    private static final int NONE = RelayTuner.NONE;

    public static void main(String[] args) {
        scriptRefuses();
        ticks();
        modes();
        disturbances();
        sets();
        trials();
        questions();
        otherGroups();
        severalCommands();
        nothingChanges();
        simulates();
        Due.finish();
    }

    private static void succeeds(RelayTuner x, int n, long script) {
        Due.is("runScript(" + n + ", " + script + ")", NONE, x.runScript(n, script));
    }

    private static void fails(int at, RelayTuner x, int n, long script) {
        Due.is("runScript(" + n + ", " + script + ")", at, x.runScript(n, script));
    }

    private static void scriptRefuses() {
        RelayTuner x = new RelayTuner();
        Due.badArgument("runScript(0, 0)", () -> x.runScript(0, 0));
        Due.badArgument("runScript(4, 0)", () -> x.runScript(4, 0));
        Due.badArgument("runScript(-1, 0)", () -> x.runScript(-1, 0));
        Due.badArgument("runScript(1, -1)", () -> x.runScript(1, -1));
        Due.badArgument("runScript(3, the least long)", () -> x.runScript(3, Long.MIN_VALUE));
        Due.badArgument("runScript(3, the greatest long)", () -> x.runScript(3, Long.MAX_VALUE));
        Due.badArgument("runScript(1, 100000)", () -> x.runScript(1, 100000L));
        Due.badArgument("runScript(2, 10000000000)", () -> x.runScript(2, 10000000000L));
        Due.badArgument("runScript(3, 1000000000000000)", () -> x.runScript(3, 1000000000000000L));
        fails(0, x, 1, 99999L);
        fails(0, x, 2, 9999999999L);
        fails(0, x, 3, 999999999999999L);
        fails(0, x, 1, 0L);
        fails(0, x, 3, 10001L);
        fails(1, x, 2, 1000100000L);
        fails(2, x, 3, 100011000100000L);
    }

    private static void ticks() {
        RelayTuner x = new RelayTuner();
        fails(0, x, 1, 10000);
        succeeds(x, 1, 10001);
        succeeds(x, 1, 10200);
        fails(0, x, 1, 10201);
        fails(0, x, 1, 11001);
        x.mode(1);
        succeeds(x, 2, 1000970139L);
        fails(1, x, 2, 1000970140L);
        fails(1, x, 2, 1000870139L);
    }

    private static void modes() {
        RelayTuner x = new RelayTuner();
        succeeds(x, 1, 20000);
        succeeds(x, 1, 20001);
        succeeds(x, 1, 20002);
        fails(0, x, 1, 20003);
        fails(0, x, 1, 20010);
        fails(0, x, 1, 20100);
        fails(0, x, 1, 21000);
        succeeds(x, 3, 200011000970139L);
        fails(2, x, 3, 200001000970021L);
        fails(2, x, 3, 200021000970100L);
    }

    private static void disturbances() {
        RelayTuner x = new RelayTuner();
        succeeds(x, 1, 30000);
        succeeds(x, 1, 31000);
        succeeds(x, 1, 30500);
        succeeds(x, 1, 31500);
        fails(0, x, 1, 30501);
        fails(0, x, 1, 31501);
        fails(0, x, 1, 32000);
        fails(0, x, 1, 39001);
        succeeds(x, 2, 3012370143L);
        fails(1, x, 2, 3012370144L);
        succeeds(x, 2, 3112371103L);
        fails(1, x, 2, 3112371102L);
    }

    private static void sets() {
        RelayTuner x = new RelayTuner();
        succeeds(x, 1, 45000);
        succeeds(x, 1, 45999);
        succeeds(x, 1, 46020);
        fails(0, x, 1, 46021);
        succeeds(x, 1, 47099);
        fails(0, x, 1, 47100);
        succeeds(x, 1, 48999);
        succeeds(x, 1, 49999);
        fails(0, x, 1, 44000);
        fails(0, x, 1, 40000);
        fails(0, x, 1, 41001);
        // With S = 0 the relay goes off at 20, and nothing warms the heater.
        x.mode(1);
        succeeds(x, 3, 450001010070020L);
        fails(2, x, 3, 450001010070021L);
        // With the tolerance 0 only the middle is good.
        RelayTuner y = swinging();
        succeeds(y, 2, 4709980003L);
        fails(1, y, 2, 4700080003L);
        // With P = 0 there is no output; with I = 999 there is.
        RelayTuner z = new RelayTuner();
        z.mode(2);
        fails(2, z, 3, 480001001070021L);
        z.set(8, 0);
        succeeds(z, 3, 499991001070021L);
    }

    /** Periods 9 4 5 6, all spans 61. */
    private static RelayTuner swinging() {
        RelayTuner x = Swinging.begun();
        for (int period : new int[] {9, 4, 5, 6}) {
            Swinging.add(x, period, 2);
        }
        return x;
    }

    private static void trials() {
        RelayTuner x = new RelayTuner();
        fails(0, x, 1, 50000);
        fails(0, x, 1, 60000);
        RelayTuner y = swinging();
        for (int rule = 0; rule <= 3; rule++) {
            succeeds(y, 2, 5000090001L + 100000L * rule);
        }
        fails(0, y, 1, 50004);
        fails(0, y, 1, 50009);
        fails(0, y, 1, 50010);
        fails(0, y, 1, 51000);
        fails(0, y, 1, 60000);
        succeeds(y, 2, 5000060000L);
        fails(1, y, 2, 5000060001L);
        fails(1, y, 2, 5000061000L);
        fails(2, y, 3, 500006000060000L);
        succeeds(y, 3, 500006000090000L);
        y.tryRule(0);
        succeeds(y, 1, 60000);
        for (int k = 2; k <= 7; k++) {
            y.tryRule(0);
        }
        fails(1, y, 2, 5000050000L);
        succeeds(y, 2, 5000090008L);
        y.tryRule(0);
        fails(0, y, 1, 50000);
        // The settings and the mode come back: the relay goes on at 39 - 100.
        RelayTuner z = swinging();
        z.set(8, 0);
        z.set(9, 0);
        z.set(10, 0);
        z.mode(0);
        z.disturb(-239);
        z.tick(1);
        Due.is("below the ambient", -196, z.about(12));
        succeeds(z, 3, 500001000171180L);
        z.tryRule(0);
        fails(2, z, 3, 600001000171180L);
        succeeds(z, 3, 600001000171193L);
    }

    private static void questions() {
        RelayTuner x = new RelayTuner();
        succeeds(x, 1, 70020);
        fails(0, x, 1, 70021);
        succeeds(x, 1, 71000);
        succeeds(x, 1, 71999);
        fails(0, x, 1, 72000);
        fails(0, x, 1, 79000);
        x.disturb(-120);
        succeeds(x, 1, 71100);
        fails(0, x, 1, 71099);
        fails(0, x, 1, 70000);
        succeeds(x, 1, 80000);
        fails(0, x, 1, 80001);
        fails(0, x, 1, 80100);
        fails(0, x, 1, 81000);
        succeeds(x, 1, 90000);
        fails(0, x, 1, 90001);
        fails(0, x, 1, 90010);
        fails(0, x, 1, 91000);
        RelayTuner y = swinging();
        succeeds(y, 1, 80003);
        fails(0, y, 1, 80004);
        fails(0, y, 1, 80099);
        for (int k = 0; k < 19; k++) {
            Swinging.add(y, 5, 2);
        }
        succeeds(y, 1, 80019);
        fails(0, y, 1, 80020);
        y.tryRule(1);
        y.tryRule(1);
        succeeds(y, 1, 90002);
        fails(0, y, 1, 90001);
        fails(0, y, 1, 90003);
    }

    private static void otherGroups() {
        RelayTuner x = swinging();
        for (int group = 0; group < 10000; group += 7) {
            fails(0, x, 1, group);
        }
    }

    private static void severalCommands() {
        RelayTuner x = new RelayTuner();
        // 60 ticks of the relay, then a question for good swings.
        succeeds(x, 3, 200011006180004L);
        fails(2, x, 3, 200011006180005L);
        // The second command fails, so the third one is not asked.
        fails(1, x, 3, 200010000100000L);
        // Fewer digits: zeros stand before them.
        fails(0, x, 2, 10001L);
    }

    private static void nothingChanges() {
        RelayTuner x = swinging();
        String before = Due.look(x);
        x.runScript(3, 500003012310050L);
        x.runScript(3, 450702000210200L);
        x.runScript(3, 480702000299999L);
        x.simulate(1, 60);
        Due.same("runScript and simulate", before, Due.look(x));
    }

    private static void simulates() {
        RelayTuner x = new RelayTuner();
        Due.badArgument("simulate(1, 0)", () -> x.simulate(1, 0));
        Due.badArgument("simulate(1, 61)", () -> x.simulate(1, 61));
        Due.badArgument("simulate(1, -1)", () -> x.simulate(1, -1));
        x.mode(1);
        // The r of the first round is 167951807 for the seed 0, which leaves 7; 1724882992 for 5 and 1875213496
        // for 11 leave 0, and disturb by -2 and by 40. The power works in the third tick alone: 18 19 20, 60 55 51 before it.
        Due.is("simulate(0, 1)", 20 + 200 / 8, x.simulate(0, 1));
        Due.is("simulate(5, 1)", 20 + 200 / 8, x.simulate(5, 1));
        Due.is("simulate(11, 1)", 51 + 169 / 8, x.simulate(11, 1));
        for (long seed : new long[] {0, 1, -1, 7, 123456789012345L, Long.MIN_VALUE, Long.MAX_VALUE}) {
            for (int m : new int[] {1, 2, 20, 60}) {
                RelayTuner y = new RelayTuner();
                y.mode(1);
                Due.is("simulate(" + seed + ", " + m + ")", played(y, seed, m), x.simulate(seed, m));
            }
        }
        RelayTuner z = Due.loaded("G01N50L0H99A-99");
        z.disturb(-400);
        Due.is("below 0", played(Due.loaded("G01N50L0H99A-99"), -400, 3, 1), z.simulate(3, 1));
    }

    private static int played(RelayTuner x, int heat, long seed, int m) {
        x.disturb(heat);
        return played(x, seed, m);
    }

    /** The document's words for simulate, by calls of the object itself. */
    private static int played(RelayTuner x, long seed, int m) {
        long state = seed;
        for (int k = 0; k < m; k++) {
            state = state * 6364136223846793005L + 1442695040888963407L;
            int r = (int) (state >>> 33);
            if (r % 8 == 0) {
                x.disturb(r / 8 % 81 - 40);
            }
            x.tick(3);
        }
        return 100000 * x.about(17) + x.about(12);
    }
}

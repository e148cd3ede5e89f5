/** Promises 9 and 12, tick and disturb, and what promises 6 and 8 tell of them: the heater by itself. */
public final class HeaterTest {
    public static void main(String[] args) {
        theNewHeaterSwings();
        delays();
        roundsTowardZero();
        tickRefuses();
        disturbs();
        accounts();
        Due.finish();
    }

    // Reckoned by hand: G = 10, N = 8, L = 2, A = 20, H = 20, S = 100, B = 3.
    private static void theNewHeaterSwings() {
        int[] due = {20, 20, 45, 66, 85, 101, 115, 128, 139, 125, 112, 101, 91, 83, 76, 94, 109};
        int[] on = {1, 1, 1, 1, 1, 1, 1, 0, 0, 0, 0, 0, 0, 1, 1, 1, 1};
        RelayTuner x = new RelayTuner();
        x.mode(1);
        for (int k = 0; k < due.length; k++) {
            Due.is("tick " + (k + 1), due[k], x.tick(1));
            Due.is("the relay in tick " + (k + 1), on[k], x.about(14));
            Due.is("the output of tick " + (k + 1), 20 * on[k], x.about(19));
            Due.is("the clock behind tick " + (k + 1), k + 1, x.about(13));
        }
        RelayTuner y = new RelayTuner();
        y.mode(1);
        Due.is("17 ticks at once", 109, y.tick(17));
        Due.same("17 ticks at once", Due.look(x), Due.look(y));
    }

    private static void delays() {
        for (int delay = 0; delay <= 9; delay++) {
            RelayTuner x = Due.loaded("G03N01L" + delay + "H40A+05S900");
            x.mode(1);
            for (int k = 1; k <= 12; k++) {
                Due.is("tick " + k + " with a delay of " + delay, k > delay ? 125 : 5, x.tick(1));
            }
            x.mode(0);
            for (int k = 1; k <= 25; k++) {
                Due.is("tick " + k + " behind it", k > delay ? 5 : 125, x.tick(1));
            }
        }
    }

    private static void roundsTowardZero() {
        RelayTuner x = Due.loaded("G01N50L0H99A+00");
        x.disturb(49);
        Due.is("from 49 to 0 by at least 1", 48, x.tick(1));
        x.disturb(51);
        Due.is("from 99 by 1", 98, x.tick(1));
        x.disturb(2);
        Due.is("from 100 by 2", 98, x.tick(1));
        x.disturb(-98 - 149);
        Due.is("from -149 by 2", -147, x.tick(1));
        x.disturb(146);
        Due.is("from -1 by 1", 0, x.tick(1));
        Due.is("at rest", 0, x.tick(200));
    }

    private static void tickRefuses() {
        RelayTuner x = new RelayTuner();
        x.mode(1);
        String before = Due.look(x);
        Due.badArgument("tick(0)", () -> x.tick(0));
        Due.badArgument("tick(201)", () -> x.tick(201));
        Due.badArgument("tick(-1)", () -> x.tick(-1));
        Due.badArgument("tick(the least int)", () -> x.tick(Integer.MIN_VALUE));
        Due.same("refused ticks", before, Due.look(x));
        x.tick(1);
        x.tick(200);
        Due.is("the clock", 201, x.about(13));
    }

    private static void disturbs() {
        RelayTuner x = new RelayTuner();
        Due.badArgument("disturb(501)", () -> x.disturb(501));
        Due.badArgument("disturb(-501)", () -> x.disturb(-501));
        Due.is("refused ones are not counted", 0, x.account(6));
        Due.is("disturb(500)", 520, x.disturb(500));
        Due.is("disturb(-500)", 20, x.disturb(-500));
        Due.is("disturb(0)", 20, x.disturb(0));
        Due.is("three disturbances", 3, x.account(6));
        Due.is("no tick", 0, x.about(13));
        for (int k = 0; k < 19; k++) {
            x.disturb(500);
        }
        Due.is("up to", 9520, x.about(12));
        Due.is("disturb(479)", 9999, x.disturb(479));
        Due.is("disturb(1) at the top", 9999, x.disturb(1));
        Due.is("disturb(-1)", 9998, x.disturb(-1));
        Due.is("disturb(500) near the top", 9999, x.disturb(500));
        Due.is("tick from the top", 9999 - 9979 / 8, x.tick(1));
        RelayTuner y = new RelayTuner();
        for (int k = 0; k < 20; k++) {
            y.disturb(-500);
        }
        Due.is("down to", -9980, y.about(12));
        Due.is("disturb(-20) to the bottom", -9999, y.disturb(-20));
        Due.is("disturb(-500) at the bottom", -9999, y.disturb(-500));
        Due.is("tick from the bottom", -9999 + 10019 / 8, y.tick(1));
        Due.is("disturbances", 22, y.account(6));
    }

    private static void accounts() {
        RelayTuner x = new RelayTuner();
        x.tick(5);
        x.mode(1);
        x.tick(17);
        x.mode(2);
        x.tick(3);
        x.mode(0);
        x.tick(2);
        Due.is("ticks in the mode 0", 7, x.account(0));
        Due.is("ticks in the mode 1", 17, x.account(1));
        Due.is("ticks in the mode 2", 3, x.account(2));
        Due.is("crossings", 2, x.account(5));
        // 7 on, 6 off, 4 on; then P = 50 at the temperatures 109, 122, 135 above S: nothing.
        Due.is("the sum of all outputs", 220, x.account(3));
        Due.is("changes of the output", 4, x.account(4));
        Due.is("the output of the last tick", 0, x.about(19));
        String before = Due.look(x);
        Due.badArgument("account(-1)", () -> x.account(-1));
        Due.badArgument("account(7)", () -> x.account(7));
        Due.badArgument("about(-1)", () -> x.about(-1));
        Due.badArgument("about(20)", () -> x.about(20));
        Due.same("refused questions", before, Due.look(x));
    }
}

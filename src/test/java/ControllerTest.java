/** Promises 10 and 11, mode and set, and the relay and the control that promises 6 and 9 show. */
public final class ControllerTest {
    /** A heater whose temperature behind a tick is the output of the tick. */
    private static final String DIRECT = "G01N01L0H99A+00";

    public static void main(String[] args) {
        modes();
        sets();
        setRefuses();
        relayEdges();
        controls();
        limits();
        sumStaysInItsRange();
        controlBeginsAnew();
        controlDoesNotBeginAnew();
        Due.finish();
    }

    private static void heatTo(RelayTuner x, int temperature) {
        x.disturb(temperature - x.about(12));
    }

    private static void modes() {
        RelayTuner x = new RelayTuner();
        Due.badArgument("mode(-1)", () -> x.mode(-1));
        Due.badArgument("mode(3)", () -> x.mode(3));
        Due.is("mode(0)", 0, x.mode(0));
        Due.is("the relay", 0, x.about(14));
        Due.is("mode(1)", 0, x.mode(1));
        Due.is("the relay in the mode 1", 1, x.about(14));
        Due.is("mode(2)", 1, x.mode(2));
        Due.is("the relay in the mode 2", 0, x.about(14));
        Due.is("mode(1) again", 2, x.mode(1));
        Due.is("the relay in the mode 1 again", 1, x.about(14));
        Due.is("mode(0) again", 1, x.mode(0));
        Due.is("the relay in the mode 0", 0, x.about(14));
        Due.is("the mode", 0, x.about(11));
    }

    private static void sets() {
        RelayTuner x = new RelayTuner();
        int[] first = {100, 3, 20, 50, 0, 0};
        int[] most = {999, 20, 99, 9999, 9999, 9999};
        for (int what = 5; what <= 10; what++) {
            int w = what;
            int top = most[what - 5];
            Due.is("set(" + w + ", " + top + ")", first[w - 5], x.set(w, top));
            Due.is("about(" + w + ")", top, x.about(w));
            Due.is("set(" + w + ", 0)", top, x.set(w, 0));
            Due.is("about(" + w + ")", 0, x.about(w));
            Due.badArgument("set(" + w + ", -1)", () -> x.set(w, -1));
            Due.badArgument("set(" + w + ", too much)", () -> x.set(w, top + 1));
            Due.is("set(" + w + ", 7)", 0, x.set(w, 7));
            Due.is("about(" + w + ")", 7, x.about(w));
        }
    }

    private static void setRefuses() {
        RelayTuner x = new RelayTuner();
        String before = Due.look(x);
        for (int what : new int[] {Integer.MIN_VALUE, -1, 0, 1, 2, 3, 4, 11, 12, 19, Integer.MAX_VALUE}) {
            Due.badArgument("set(" + what + ", 1)", () -> x.set(what, 1));
        }
        Due.badArgument("set(5, the least int)", () -> x.set(5, Integer.MIN_VALUE));
        Due.same("refused sets", before, Due.look(x));
        Due.badState("undo() after refused sets", x::undo);
    }

    /** The relay in a tick that begins at a temperature, from on or from off. */
    private static int relay(boolean fromOn, int band, int temperature) {
        RelayTuner x = Due.loaded(DIRECT);
        x.set(6, band);
        x.mode(1);
        if (!fromOn) {
            heatTo(x, 200);
            x.tick(1);
        }
        Due.is("the relay before", fromOn ? 1 : 0, x.about(14));
        heatTo(x, temperature);
        int behind = x.tick(1);
        Due.is("the temperature behind it", x.about(14) == 1 ? 99 : 0, behind);
        return x.about(14);
    }

    private static void relayEdges() {
        Due.is("on at 102", 1, relay(true, 3, 102));
        Due.is("on at 103", 0, relay(true, 3, 103));
        Due.is("off at 98", 0, relay(false, 3, 98));
        Due.is("off at 97", 1, relay(false, 3, 97));
        Due.is("on at 97", 1, relay(true, 3, 97));
        Due.is("off at 103", 0, relay(false, 3, 103));
        Due.is("on at S without a band", 0, relay(true, 0, 100));
        Due.is("off at S without a band", 0, relay(false, 0, 100));
        Due.is("on at 99 without a band", 1, relay(true, 0, 99));
        Due.is("off at 99 without a band", 1, relay(false, 0, 99));
        RelayTuner x = Due.loaded(DIRECT);
        heatTo(x, 500);
        x.mode(1);
        Due.is("the relay is on when the mode becomes 1", 1, x.about(14));
        x.tick(1);
        Due.is("a tick later it is too hot", 0, x.about(14));
        Due.is("mode(1) in the mode 1", 1, x.mode(1));
        Due.is("the relay is as it was", 0, x.about(14));
        x.set(6, 20);
        heatTo(x, 100);
        x.tick(1);
        Due.is("in the band it stays off", 0, x.about(14));
    }

    // S = 100. Reckoned by hand: the temperature behind a tick is the output.
    private static void controls() {
        RelayTuner x = Due.loaded(DIRECT);
        x.mode(2);
        Due.is("P 50, e 100", 50, x.tick(1));
        Due.is("the sum", 100, x.about(15));
        Due.is("P 50, e 50", 25, x.tick(1));
        Due.is("the sum", 150, x.about(15));
        x.set(10, 20);
        Due.is("e 75, d 25, D 20", 42, x.tick(1));
        Due.is("the sum", 225, x.about(15));
        x.set(9, 10);
        Due.is("e 58, d -17, I 10", 48, x.tick(1));
        Due.is("the sum", 283, x.about(15));
        x.set(5, 0);
        Due.is("e -48, d -106 with the set point that there was", 0, x.tick(1));
        Due.is("the sum behind a limit", 283, x.about(15));
        x.set(8, 0);
        x.set(10, 0);
        Due.is("e 0, I 10, the sum 283", 28, x.tick(1));
        Due.is("the output", 28, x.about(19));
    }

    private static void limits() {
        RelayTuner x = Due.loaded(DIRECT);
        x.mode(2);
        x.set(8, 100);
        Due.is("100 is limited to 99", 99, x.tick(1));
        Due.is("the sum behind the limit", 0, x.about(15));
        heatTo(x, 1);
        Due.is("99 is no limit", 99, x.tick(1));
        Due.is("the sum behind 99", 99, x.about(15));
        x.set(8, 1);
        heatTo(x, 199);
        Due.is("-99 / 100 is 0, rounded toward 0", 0, x.tick(1));
        Due.is("the sum behind it", 0, x.about(15));
        heatTo(x, 200);
        Due.is("-100 / 100 is limited to 0", 0, x.tick(1));
        Due.is("the sum behind that", 0, x.about(15));
        heatTo(x, 150);
        x.tick(1);
        Due.is("the sum below 0", -50, x.about(15));
    }

    private static void sumStaysInItsRange() {
        RelayTuner x = Due.loaded(DIRECT);
        x.set(8, 0);
        x.set(5, 999);
        x.mode(2);
        x.tick(10);
        Due.is("the sum of ten errors", 9990, x.about(15));
        x.tick(1);
        Due.is("the greatest sum", 9999, x.about(15));
        x.tick(1);
        Due.is("the greatest sum again", 9999, x.about(15));
        x.set(5, 0);
        for (int k = 0; k < 40; k++) {
            heatTo(x, 500);
            x.tick(1);
        }
        Due.is("the smallest sum", -9999, x.about(15));
    }

    private static void controlBeginsAnew() {
        RelayTuner x = Due.loaded(DIRECT);
        x.mode(2);
        x.tick(2);
        Due.is("the sum", 150, x.about(15));
        x.mode(0);
        Due.is("the sum in another mode", 150, x.about(15));
        x.tick(1);
        Due.is("the sum behind a tick of another mode", 150, x.about(15));
        x.mode(2);
        Due.is("the sum when the mode becomes 2", 0, x.about(15));
        x.set(10, 100);
        heatTo(x, 60);
        Due.is("there is no d in the first tick", 20, x.tick(1));
        Due.is("e 80, d 40 in the second", 80, x.tick(1));
        x.mode(1);
        x.mode(2);
        heatTo(x, 60);
        Due.is("there is no d behind another mode without a tick", 20, x.tick(1));
    }

    private static void controlDoesNotBeginAnew() {
        RelayTuner x = Due.loaded(DIRECT);
        x.mode(2);
        x.tick(2);
        Due.is("mode(2) in the mode 2", 2, x.mode(2));
        Due.is("the sum", 150, x.about(15));
        x.set(10, 20);
        Due.is("d goes on", 42, x.tick(1));
    }
}

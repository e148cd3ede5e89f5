/** Promises 10 and 11 and the section THE CONTROLLER: a test for each sentence that names an edge. */
public final class EdgeOfControllerTest {
    /** A heater whose temperature behind a tick is the output of the tick. */
    private static final String DIRECT = "G01N01L0H99A+00";
    private static final int[] MOST = {999, 20, 99, 9999, 9999, 9999};

    public static void main(String[] args) {
        rangesOfTheNumbers();
        numbersThatAreSet();
        offAtLeastSPlusB();
        onAtMostSMinusB();
        withoutABand();
        onWhenTheModeBecomes1();
        offInTheOtherModes();
        noDInTheFirstTick();
        dWithTheOldSetPoint();
        outputRoundedTowardZero();
        outputAtLeast0();
        outputAtMostH();
        greatestTerms();
        sumIs0WhenTheModeBecomes2();
        sumIncreasesBehindTheOutput();
        sumStaysAtALimit();
        sumInItsRange();
        modesThereAre();
        theModeThatThereIs();
        Due.finish();
    }

    private static RelayTuner control(int p, int i, int d) {
        RelayTuner x = Due.loaded(DIRECT);
        x.set(8, p);
        x.set(9, i);
        x.set(10, d);
        x.mode(2);
        return x;
    }

    private static void rangesOfTheNumbers() {
        Due.words("set: v: new number, in its range (a set point S, 0 to 999, a band B, 0 to 20, a tolerance, 0 to 99 "
            + "percent, and three settings P, I and D, 0 to 9999 each)");
        int[] first = {100, 3, 20, 50, 0, 0};
        for (int k = 0; k < 6; k++) {
            int what = k + 5;
            int most = MOST[k];
            RelayTuner x = new RelayTuner();
            Due.is("set(" + what + ", " + most + ")", first[k], x.set(what, most));
            Due.is("about(" + what + ")", most, x.about(what));
            Due.is("set(" + what + ", 0)", most, x.set(what, 0));
            Due.is("about(" + what + ")", 0, x.about(what));
            Due.is("set(" + what + ", " + (most - 1) + ")", 0, x.set(what, most - 1));
            Due.is("set(" + what + ", 1)", most - 1, x.set(what, 1));
            for (int v : new int[] {-1, most + 1, Integer.MIN_VALUE, Integer.MAX_VALUE}) {
                Refused.argument("set(" + what + ", " + v + ")", y -> y.set(what, v));
            }
        }
    }

    private static void numbersThatAreSet() {
        Due.words("set: what: 5 to 10, as for about()");
        for (int what : new int[] {4, 11, -1, 0, 12, 19, 20, Integer.MIN_VALUE, Integer.MAX_VALUE}) {
            Refused.argument("set(" + what + ", 1)", x -> x.set(what, 1));
        }
        Refused.argument("set(11, -1)", x -> x.set(11, -1));
        for (int set = 5; set <= 10; set++) {
            RelayTuner x = new RelayTuner();
            int[] due = {10, 8, 2, 20, 20, 100, 3, 20, 50, 0, 0, 0, 20, 0, 0, 0, 0, 0, 0, 0};
            due[set] = set;
            x.set(set, set);
            for (int what = 0; what <= 19; what++) {
                Due.is("about(" + what + ") behind set(" + set + ", " + set + ")", due[what], x.about(what));
            }
        }
    }

    /** If the relay is on in a tick that begins at a temperature, from on or from off before it. */
    private static void relay(boolean fromOn, int s, int b, int temperature, int due) {
        RelayTuner x = Due.loaded(DIRECT);
        x.set(5, s);
        x.set(6, b);
        x.mode(1);
        if (!fromOn) {
            Due.heat(x, s + b);
            x.tick(1);
        }
        String tick = "the tick from " + temperature + " with S " + s + ", B " + b;
        Due.is("the relay before " + tick, fromOn ? 1 : 0, x.about(14));
        Due.heat(x, temperature);
        Due.is("the temperature behind " + tick, 99 * due, x.tick(1));
        Due.is("the relay in " + tick, due, x.about(14));
        Due.is("the output of " + tick, 99 * due, x.about(19));
    }

    private static void offAtLeastSPlusB() {
        Due.words("the relay goes off if the temperature is at least S + B");
        int[][] edges = {{100, 3}, {100, 1}, {100, 20}, {0, 20}, {999, 20}, {0, 1}};
        for (int[] edge : edges) {
            int top = edge[0] + edge[1];
            relay(true, edge[0], edge[1], top - 1, 1);
            relay(true, edge[0], edge[1], top, 0);
            relay(true, edge[0], edge[1], top + 1, 0);
            relay(false, edge[0], edge[1], top, 0);
            relay(false, edge[0], edge[1], top - 1, 0);
        }
    }

    private static void onAtMostSMinusB() {
        Due.words("and on if it is at most S - B");
        int[][] edges = {{100, 3}, {100, 1}, {100, 20}, {0, 20}, {999, 20}, {0, 1}};
        for (int[] edge : edges) {
            int bottom = edge[0] - edge[1];
            relay(false, edge[0], edge[1], bottom + 1, 0);
            relay(false, edge[0], edge[1], bottom, 1);
            relay(false, edge[0], edge[1], bottom - 1, 1);
            relay(true, edge[0], edge[1], bottom, 1);
            relay(true, edge[0], edge[1], bottom + 1, 1);
        }
    }

    private static void withoutABand() {
        Due.words("(with B = 0 and the temperature S it goes off)");
        for (int s : new int[] {0, 1, 100, 999}) {
            relay(true, s, 0, s, 0);
            relay(false, s, 0, s, 0);
            relay(true, s, 0, s - 1, 1);
            relay(false, s, 0, s - 1, 1);
            relay(true, s, 0, s + 1, 0);
        }
    }

    private static void onWhenTheModeBecomes1() {
        Due.words("It is on when the mode becomes 1 from another one");
        for (int other : new int[] {0, 2}) {
            RelayTuner x = Due.loaded(DIRECT);
            x.mode(other);
            Due.heat(x, 500);
            x.mode(1);
            Due.is("the relay, far too hot, before a tick", 1, x.about(14));
            x.tick(1);
            Due.is("the relay in the tick", 0, x.about(14));
            Due.is("mode(1) in the mode 1", 1, x.mode(1));
            Due.is("the relay stays off", 0, x.about(14));
            x.mode(other);
            x.mode(1);
            Due.is("the relay is on again", 1, x.about(14));
        }
        RelayTuner y = Due.loaded(DIRECT);
        y.mode(1);
        y.mode(0);
        Due.heat(y, 100);
        y.mode(1);
        Due.is("in the band it was on at first", 99, y.tick(1));
        Due.is("the relay", 1, y.about(14));
    }

    private static void offInTheOtherModes() {
        Due.words("and off in the other modes");
        for (int other : new int[] {0, 2}) {
            RelayTuner x = Due.loaded(DIRECT);
            x.mode(1);
            Due.is("the relay in the mode 1", 1, x.about(14));
            x.mode(other);
            Due.is("the relay in the mode " + other, 0, x.about(14));
            x.tick(1);
            Due.is("the relay behind a tick", 0, x.about(14));
        }
        RelayTuner y = Made.of(50, new int[] {5, 20}, new int[] {5, 20});
        Due.is("the relay", 1, y.about(14));
        y.tryRule(0);
        Due.is("the relay in a trial", 0, y.about(14));
        y.takeBack();
        Due.is("the relay behind it", 1, y.about(14));
    }

    private static void noDInTheFirstTick() {
        Due.words("let d be e minus the e of the tick before (0 in the first tick of this mode)");
        RelayTuner x = control(0, 0, 100);
        Due.is("the first tick: e 100, d 0", 0, x.tick(1));
        Due.heat(x, -30);
        Due.is("the second tick: e 130, d 30", 30, x.tick(1));
        Due.heat(x, -30);
        Due.is("e 130 again, d 0", 0, x.tick(1));
        Due.heat(x, -31);
        Due.is("e 131, d 1", 1, x.tick(1));
        for (int other = 0; other <= 1; other++) {
            x.mode(other);
            x.mode(2);
            Due.heat(x, -80);
            Due.is("the first tick behind the mode " + other, 0, x.tick(1));
            Due.heat(x, -90);
            Due.is("the second tick behind it", 10, x.tick(1));
        }
        x.mode(0);
        x.tick(3);
        x.mode(2);
        Due.is("the first tick behind ticks of the mode 0", 0, x.tick(1));
        Due.heat(x, -7);
        x.mode(2);
        Due.is("mode(2) in the mode 2 is no first tick", 7, x.tick(1));
    }

    private static void dWithTheOldSetPoint() {
        Due.words("(with the S that there was then)");
        RelayTuner x = control(0, 0, 100);
        x.tick(1);
        x.set(5, 140);
        Due.is("S 140: e 140, d 40", 40, x.tick(1));
        x.set(5, 130);
        Due.heat(x, 0);
        Due.is("S 130: e 130, d -10", 0, x.tick(1));
        x.set(5, 500);
        x.set(5, 131);
        Due.is("a set without a tick is not seen: d 1", 1, x.tick(1));
    }

    /** The output with P alone in a tick with an error. */
    private static int output(int p, int error) {
        RelayTuner x = control(p, 0, 0);
        x.set(5, error > 0 ? error : 0);
        Due.heat(x, error > 0 ? 0 : -error);
        return x.tick(1);
    }

    private static int sumBehind(int p, int error) {
        RelayTuner x = control(p, 0, 0);
        x.set(5, error > 0 ? error : 0);
        Due.heat(x, error > 0 ? 0 : -error);
        x.tick(1);
        return x.about(15);
    }

    private static void outputRoundedTowardZero() {
        Due.words("The output is (P * e + I * sum + D * d) / 100, rounded toward 0");
        Due.is("the output of 99 / 100", 0, output(1, 99));
        Due.is("the output of 100 / 100", 1, output(1, 100));
        Due.is("the output of 199 / 100", 1, output(1, 199));
        Due.is("the output of 200 / 100", 2, output(1, 200));
        Due.is("the output of 0 / 100", 0, output(1, 0));
        Due.is("the output of -99 / 100", 0, output(1, -99));
        Due.is("the sum behind -99 / 100, which is 0 by itself", -99, sumBehind(1, -99));
        RelayTuner x = control(1, 1, 1);
        x.set(5, 50);
        Due.is("P 1, e 50: 50 / 100", 0, x.tick(1));
        x.set(5, 60);
        // All three divided by themselves would be 0.
        x.set(10, 3);
        Due.is("60 + 50 + 30, divided together", 1, x.tick(1));
    }

    private static void outputAtLeast0() {
        Due.words("but at least 0");
        Due.is("the output of 0", 0, output(100, 0));
        Due.is("the sum behind 0", 0, sumBehind(100, 0));
        Due.is("the output of 1", 1, output(100, 1));
        Due.is("the output of -1", 0, output(100, -1));
        Due.is("the sum behind the limit", 0, sumBehind(100, -1));
        Due.is("the output of -100 / 100", 0, output(1, -100));
        Due.is("the sum behind it", 0, sumBehind(1, -100));
        Due.is("the output of P 9999, e -9999", 0, output(9999, -9999));
    }

    private static void outputAtMostH() {
        Due.words("and at most H");
        Due.is("the output of H - 1", 98, output(100, 98));
        Due.is("the output of H", 99, output(100, 99));
        Due.is("the output of H + 1", 99, output(100, 100));
        Due.is("the sum behind H", 99, sumBehind(100, 99));
        Due.is("the sum behind H + 1", 0, sumBehind(100, 100));
        roundedToH(-9000, 9999);
        roundedToH(-9001, 0);
        RelayTuner x = Due.loaded("G01N01L0H01A+00");
        x.set(8, 100);
        x.mode(2);
        x.set(5, 1);
        Due.is("the output of 1 with H = 1", 1, x.tick(1));
        Due.is("the sum behind it", 1, x.about(15));
        x.set(5, 3);
        Due.is("the output of 2 with H = 1", 1, x.tick(1));
        Due.is("the sum behind that", 1, x.about(15));
    }

    // S = 999 and P = 1: an error of 9999 makes 99.99, which is rounded to H and no limit; one of 10000 is too much.
    private static void roundedToH(int temperature, int sum) {
        RelayTuner x = control(1, 0, 0);
        x.set(5, 999);
        Due.heat(x, temperature);
        x.tick(1);
        Due.is("the output from " + temperature, 99, x.about(19));
        Due.is("the sum behind it", sum, x.about(15));
    }

    // The greatest error, sum and difference together: about 420 million.
    private static void greatestTerms() {
        Due.words("three settings P, I and D, 0 to 9999 each; the sum stays from -9999 to 9999; the temperature from "
            + "-9999 to 9999");
        RelayTuner x = control(0, 0, 0);
        x.set(5, 999);
        x.tick(11);
        Due.is("the sum", 9999, x.about(15));
        Due.heat(x, 9999);
        x.set(5, 0);
        x.tick(1);
        x.set(5, 999);
        x.tick(20);
        Due.is("the sum once more", 9999, x.about(15));
        Due.heat(x, 9999);
        x.set(5, 0);
        x.set(9, 9999);
        Due.is("I * sum alone", 99, x.ahead(1, 1));
        x.tick(1);
        Due.heat(x, -9999);
        x.set(5, 999);
        x.set(8, 9999);
        x.set(10, 9999);
        Due.is("the greatest of all three", 99, x.tick(1));
        Due.heat(x, 9999);
        x.set(5, 0);
        Due.is("the smallest e and d", 0, x.tick(1));
    }

    private static void sumIs0WhenTheModeBecomes2() {
        Due.words("The sum, 0 when the mode becomes 2 from another one");
        for (int other = 0; other <= 1; other++) {
            RelayTuner x = control(0, 0, 0);
            x.tick(3);
            Due.is("the sum", 300, x.about(15));
            x.mode(2);
            Due.is("the sum behind mode(2) in the mode 2", 300, x.about(15));
            x.mode(other);
            x.mode(2);
            Due.is("the sum when the mode becomes 2 from " + other, 0, x.about(15));
            x.tick(1);
            Due.is("the sum behind a tick", 100, x.about(15));
            x.mode(other);
            x.tick(5);
            x.mode(2);
            Due.is("the sum when the mode becomes 2 behind ticks", 0, x.about(15));
        }
    }

    private static void sumIncreasesBehindTheOutput() {
        Due.words("increases by e behind that");
        RelayTuner x = control(0, 100, 0);
        x.set(5, 40);
        Due.is("the first tick: the sum is still 0", 0, x.tick(1));
        Due.is("the sum behind it", 40, x.about(15));
        Due.is("the second tick: I * 40", 40, x.tick(1));
        Due.is("the sum behind that", 80, x.about(15));
        Due.heat(x, 90);
        Due.is("the third tick: I * 80, and e is -50", 80, x.tick(1));
        Due.is("the sum behind a negative e", 30, x.about(15));
    }

    private static void sumStaysAtALimit() {
        Due.words("if the output was not changed by its limits");
        int[][] edges = {{100, 99, 99}, {100, 100, 0}, {100, 0, 0}, {100, -1, 0}, {1, -99, -99}, {1, -100, 0},
            {0, 999, 999}, {0, -500, -500}, {50, 199, 199}, {50, 200, 0}};
        for (int[] edge : edges) {
            Due.is("the sum behind P " + edge[0] + ", e " + edge[1], edge[2], sumBehind(edge[0], edge[1]));
        }
    }

    private static void sumInItsRange() {
        Due.words("it stays from -9999 to 9999");
        RelayTuner x = control(0, 0, 0);
        x.set(5, 999);
        x.tick(10);
        x.set(5, 8);
        x.tick(1);
        Due.is("the sum", 9998, x.about(15));
        x.set(5, 1);
        x.tick(1);
        Due.is("the greatest sum", 9999, x.about(15));
        x.tick(1);
        Due.is("the greatest sum and 1", 9999, x.about(15));
        x.set(5, 999);
        x.tick(1);
        Due.is("the greatest sum and 999", 9999, x.about(15));
        x.set(5, 0);
        Due.heat(x, 5);
        x.tick(1);
        Due.is("from the greatest sum down by 5", 9994, x.about(15));
        RelayTuner y = control(0, 0, 0);
        y.set(5, 0);
        Due.heat(y, 9998);
        y.tick(1);
        Due.is("the sum", -9998, y.about(15));
        Due.heat(y, 1);
        y.tick(1);
        Due.is("the smallest sum", -9999, y.about(15));
        Due.heat(y, 1);
        y.tick(1);
        Due.is("the smallest sum less 1", -9999, y.about(15));
        Due.heat(y, 9999);
        y.tick(1);
        Due.is("the smallest sum less 9999", -9999, y.about(15));
        y.set(5, 5);
        y.tick(1);
        Due.is("from the smallest sum up by 5", -9994, y.about(15));
    }

    private static void modesThereAre() {
        Due.words("mode: v: 0 to 2");
        for (int v : new int[] {-1, 3, Integer.MIN_VALUE, Integer.MAX_VALUE}) {
            Refused.argument("mode(" + v + ")", x -> x.mode(v));
        }
        for (int from = 0; from <= 2; from++) {
            for (int to = 0; to <= 2; to++) {
                RelayTuner x = new RelayTuner();
                x.mode(from);
                Due.is("mode(" + to + ") from " + from, from, x.mode(to));
                Due.is("about(11) behind it", to, x.about(11));
            }
        }
    }

    private static void theModeThatThereIs() {
        Due.words("mode: In the mode that there is already, nothing changes.");
        for (RelayTuner x : new RelayTuner[] {new RelayTuner(), Full.inRelay(), Full.inControl()}) {
            String before = Due.look(x);
            int mode = x.about(11);
            Due.is("mode(" + mode + ")", mode, x.mode(mode));
            Due.same("mode(" + mode + ")", before, Due.look(x));
            x.undo();
            Due.same("undo() of it", before, Due.look(x));
        }
        RelayTuner x = Full.inRelay();
        RelayTuner y = Full.inRelay();
        x.mode(1);
        x.tick(100);
        y.tick(100);
        Due.same("the swing that was going on goes on", Due.look(y), Due.look(x));
        RelayTuner z = new RelayTuner();
        z.mode(0);
        Due.is("mode(0) is an action", 0, z.undo());
    }
}

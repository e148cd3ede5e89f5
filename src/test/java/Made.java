/**
 * Swings of any period and any span, in a heater of any full power. A relay that is on brings it from 0 to 1, which
 * is S; one that is off lets it cool by a fiftieth, but at least by 1, and the disturbances do the rest.
 */
final class Made {
    private Made() {
    }

    /** A tuner behind its first crossing, at the clock 1 and the temperature 1. */
    static RelayTuner begun(int fullPower) {
        RelayTuner x = Due.loaded("G01N50L0H" + fullPower / 10 + fullPower % 10 + "A+00S001B00T20");
        x.mode(1);
        x.tick(1);
        return x;
    }

    static RelayTuner begun() {
        return begun(50);
    }

    /** Makes a swing with the low 1; of the period 1 there is the span 0 alone. */
    static void swing(RelayTuner x, int period, int span) {
        int left = period - 1;
        while (left > 0) {
            Due.heat(x, before(1 + span));
            int ticks = 1;
            for (int t = 1 + span; t >= 2 && ticks < left && ticks < 200; ticks++) {
                t -= Math.max(1, t / 50);
            }
            x.tick(ticks);
            left -= ticks;
        }
        Due.heat(x, 0);
        x.tick(1);
    }

    /** Makes swings of these periods and spans, a pair for each. */
    static RelayTuner of(int fullPower, int[]... swings) {
        RelayTuner x = begun(fullPower);
        for (int[] one : swings) {
            swing(x, one[0], one[1]);
        }
        return x;
    }

    static RelayTuner ofPeriods(int span, int... periods) {
        RelayTuner x = begun();
        for (int period : periods) {
            swing(x, period, span);
        }
        return x;
    }

    static RelayTuner ofSpans(int period, int... spans) {
        RelayTuner x = begun();
        for (int span : spans) {
            swing(x, period, span);
        }
        return x;
    }

    /** The temperature from which a tick without power comes down to this one. */
    private static int before(int behind) {
        int t = behind + 1;
        while (t - Math.max(1, t / 50) < behind) {
            t++;
        }
        return t;
    }
}

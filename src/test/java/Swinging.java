/**
 * Swings made to measure. In this heater a tick of the relay brings 0 to 39, and 51 * k to 50 * k; so behind a
 * crossing at 39 a swing of any period and of the span 50 * k - 39 can be made by disturbances.
 */
final class Swinging {
    static final String HEATER = "G20N50L0H99A+00S030B00T20";

    private Swinging() {
    }

    /** A tuner behind its first crossing, at the clock 1 and the temperature 39. */
    static RelayTuner begun() {
        RelayTuner x = Due.loaded(HEATER);
        x.mode(1);
        x.tick(1);
        return x;
    }

    /** Makes a swing of a period from 2 to 10 and of the span 50 * k - 39, k from 1 to 8. */
    static void add(RelayTuner x, int period, int k) {
        x.disturb(51 * k - x.about(12));
        x.tick(period - 1);
        x.disturb(-x.about(12));
        x.tick(1);
    }

    /** Makes a swing of a period of at least 1 and of the span 0. */
    static void addFlat(RelayTuner x, int period) {
        for (int k = 1; k < period; k++) {
            x.disturb(1);
            x.tick(1);
        }
        x.disturb(-x.about(12));
        x.tick(1);
    }
}

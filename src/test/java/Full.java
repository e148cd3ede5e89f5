/**
 * Tuners in which everything that can be kept is kept: swings, good and odd, and one that is going on, open trials,
 * fourteen remembered states, two save slots, and a text that is not as described.
 */
final class Full {
    private Full() {
    }

    static RelayTuner inRelay() {
        RelayTuner x = begun();
        x.mode(1);
        x.tick(40);
        goOn(x);
        return x;
    }

    static RelayTuner inControl() {
        RelayTuner x = begun();
        x.tick(2);
        x.set(8, 4);
        x.set(9, 1);
        x.set(10, 9);
        goOn(x);
        return x;
    }

    private static RelayTuner begun() {
        RelayTuner x = Due.loaded("G10N08L2H20A+15S110B04T30");
        x.append('?');
        x.mode(1);
        x.tick(60);
        x.disturb(70);
        x.tick(60);
        x.save(0);
        x.tryRule(1);
        x.tick(7);
        x.save(1);
        x.set(8, 33);
        x.tryRule(3);
        return x;
    }

    // Fourteen actions, none of which leaves the state as it was.
    private static void goOn(RelayTuner x) {
        for (int k = 1; k <= 7; k++) {
            x.tick(k);
            x.disturb(3);
        }
    }
}

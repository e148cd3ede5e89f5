/** Promises 27 and 28: save and restore. */
public final class SlotTest {
    public static void main(String[] args) {
        refuses();
        savesAndRestores();
        forgetsRememberedStates();
        theTextStays();
        openTrialsAreKept();
        Due.finish();
    }

    private static void refuses() {
        RelayTuner x = new RelayTuner();
        for (int slot : new int[] {-1, 2, Integer.MIN_VALUE, Integer.MAX_VALUE}) {
            Due.badIndex("save(" + slot + ")", () -> x.save(slot));
            Due.badIndex("restore(" + slot + ")", () -> x.restore(slot));
        }
        x.tick(3);
        Due.is("save(1)", 3, x.save(1));
        Due.badState("restore(0) of nothing", () -> x.restore(0));
        Due.is("undo() behind save and a refused restore", 0, x.undo());
        Due.is("restore(1)", 3, x.restore(1));
    }

    private static void savesAndRestores() {
        RelayTuner x = Swinging.begun();
        for (int period = 4; period <= 6; period++) {
            Swinging.add(x, period, 2);
        }
        x.tryRule(2);
        x.tick(4);
        String first = Due.look(x);
        int clock = x.about(13);
        Due.is("save(0)", clock, x.save(0));
        x.takeBack();
        x.discard(1);
        x.tick(40);
        x.set(7, 3);
        x.disturb(17);
        String second = Due.look(x);
        Due.is("save(1)", clock + 40, x.save(1));
        x.mode(0);
        x.tick(1);
        Due.is("restore(0)", clock, x.restore(0));
        Due.same("restore(0)", first, Due.look(x));
        x.tick(5);
        x.accept();
        Due.is("restore(0) again", clock, x.restore(0));
        Due.same("restore(0) again", first, Due.look(x));
        Due.is("the trial is open again", 0, x.takeBack());
        Due.is("restore(1)", clock + 40, x.restore(1));
        Due.same("restore(1)", second, Due.look(x));
        x.tick(2);
        Due.is("save(0) over the old one", clock + 42, x.save(0));
        x.tick(1);
        Due.is("restore(0) of the new one", clock + 42, x.restore(0));
    }

    private static void forgetsRememberedStates() {
        RelayTuner x = new RelayTuner();
        x.tick(1);
        x.save(0);
        x.tick(1);
        x.restore(0);
        Due.badState("undo() behind restore", x::undo);
        x.tick(1);
        Due.is("undo() of the tick behind it", 0, x.undo());
        Due.is("the clock", 1, x.about(13));
    }

    private static void openTrialsAreKept() {
        RelayTuner x = Swinging.begun();
        Swinging.add(x, 5, 2);
        Swinging.add(x, 5, 2);
        x.set(8, 11);
        x.set(9, 12);
        x.set(10, 13);
        x.tryRule(0);
        x.save(0);
        x.accept();
        x.set(8, 21);
        x.mode(0);
        x.tryRule(1);
        x.restore(0);
        x.takeBack();
        Due.is("P", 11, x.about(8));
        Due.is("I", 12, x.about(9));
        Due.is("D", 13, x.about(10));
        Due.is("the mode", 1, x.about(11));
    }

    private static void theTextStays() {
        RelayTuner x = new RelayTuner();
        x.append('G');
        x.save(0);
        x.append('1');
        x.append('0');
        x.restore(0);
        Due.is("append behind restore", 4, x.append('N'));
    }
}

/** Promise 1 and what the document tells of an object as a whole: a test for each sentence that names an edge. */
public final class EdgeOfObjectTest {
    private static final int NONE = RelayTuner.NONE;

    public static void main(String[] args) {
        aNewObject();
        eachObjectByItself();
        upTo512Calls();
        longSwings();
        thereIsNoSuchResult();
        fullTunersAreFull();
        Due.finish();
    }

    private static void aNewObject() {
        Due.words("A new object has G = 10, N = 8, L = 2, A = 20, H = 20, the temperature 20, and the clock 0.");
        int[] due = {10, 8, 2, 20, 20, 100, 3, 20, 50, 0, 0, 0, 20, 0, 0, 0, 0, 0, 0, 0};
        RelayTuner x = new RelayTuner();
        for (int what = 0; what <= 19; what++) {
            Due.is("about(" + what + ")", due[what], x.about(what));
        }
        Due.is("the text", 0, x.clearText());
        Due.is("a tick at rest", 20, x.tick(1));
        Due.badState("restore(0)", () -> x.restore(0));
        Due.badState("restore(1)", () -> x.restore(1));
        Due.badState("takeBack()", x::takeBack);
        Due.badIndex("swing(0, 0)", () -> x.swing(0, 0));
        Due.is("undo() of the tick", 0, x.undo());
        Due.badState("undo() of no more", x::undo);
    }

    private static void eachObjectByItself() {
        Due.words("Creates the heater and the controller that are described above.");
        RelayTuner x = new RelayTuner();
        String fresh = Due.look(x);
        Full.inControl();
        RelayTuner y = Full.inRelay();
        Due.same("what other objects do", fresh, Due.look(x));
        Due.same("a new one beside them", fresh, Due.look(new RelayTuner()));
        Due.type(y, "G10N08L2H20");
        y.load();
        Due.same("one that is loaded, but for its text", fresh.replace("| 0 20", "| -99999 20"), Due.look(y));
    }

    // The relay never comes to S, so that each output is 99.
    private static void upTo512Calls() {
        Due.words("An object is used for at most 512 calls after it has been made");
        RelayTuner x = new RelayTuner();
        int calls = 0;
        for (char c : "G01N01L0H99S999".toCharArray()) {
            x.append(c);
            calls++;
        }
        x.load();
        x.mode(1);
        calls += 2;
        int ticks = 0;
        while (calls < 507) {
            x.tick(200);
            ticks += 200;
            calls++;
        }
        Due.is("the clock", ticks, x.about(13));
        Due.is("the sum of all outputs", 99 * ticks, x.account(3));
        Due.is("ticks in the mode 1", ticks, x.account(1));
        Due.is("undo()", 13, x.undo());
        Due.is("the clock in the 512th call", ticks - 200, x.about(13));
    }

    // The relay that is off keeps the heater at S = 20, its ambient, for 95000 ticks.
    private static void longSwings() {
        Due.words("its period is the number of ticks from the one to the other; no setting is more than 9999");
        RelayTuner x = new RelayTuner();
        x.set(5, 20);
        x.set(6, 0);
        x.mode(1);
        crossAgain(x);
        x.tick(60);
        crossAgain(x);
        for (int k = 1; k <= 475; k++) {
            x.tick(200);
        }
        crossAgain(x);
        Due.is("swings", 2, x.about(16));
        Due.is("the short period", 61, x.swing(0, 0));
        Due.is("the long period", 95001, x.swing(1, 0));
        Due.is("its high", 45, x.swing(1, 1));
        Due.is("its low", 20, x.swing(1, 2));
        Due.is("it is good", 0, x.swing(1, 3));
        Due.is("the middle period", 95001, x.middle(false));
        // The span is 25, so that K = 101.
        Due.is("P of the rule 2", 60, x.proposal(2, 0));
        Due.is("I of the rule 2", 0, x.proposal(2, 1));
        Due.is("D of the rule 2", 9999, x.proposal(2, 2));
        Due.is("D of the rule 3", 9999, x.proposal(3, 2));
        x.tick(60);
        crossAgain(x);
        Due.is("the middle of 61 and 95001", 61, x.middle(false));
        Due.is("the long one is odd", 2, x.swing(1, 3));
        Due.is("toleranceFor(2)", NONE, x.toleranceFor(2));
    }

    private static void crossAgain(RelayTuner x) {
        x.disturb(-1);
        x.tick(1);
    }

    private static void thereIsNoSuchResult() {
        Due.words("NONE = -99999: There is no such result.");
        Due.is("NONE", -99999, RelayTuner.NONE);
    }

    private static void fullTunersAreFull() {
        Due.words("(what the other tests take for granted of their tuners)");
        for (RelayTuner x : new RelayTuner[] {Full.inRelay(), Full.inControl()}) {
            Due.is("swings", 1, x.about(16) >= 7 ? 1 : 0);
            Due.is("good swings", 1, x.about(17) >= 3 ? 1 : 0);
            Due.is("odd swings", 1, x.about(17) <= x.about(16) - 2 ? 1 : 0);
            Due.is("open trials", 2, x.about(18));
            Due.is("the text has an error", 25, x.errorPosition());
            Due.badState("load()", x::load);
            Due.is("the temperature is a number of a script", 1, x.about(12) >= 0 && x.about(12) < 999 ? 1 : 0);
            Due.is("undo() of the fourteenth", 13, x.undo());
            Due.is("slot 0 and slot 1 differ", 1, x.restore(0) != x.restore(1) ? 1 : 0);
        }
        RelayTuner relay = Full.inRelay();
        Due.is("the mode", 1, relay.about(11));
        int swings = relay.about(16);
        relay.tick(60);
        Due.is("a swing goes on", 1, relay.about(16) > swings || swings == 20 ? 1 : 0);
        RelayTuner control = Full.inControl();
        Due.is("the mode", 2, control.about(11));
        Due.is("the sum of the control is something", 1, control.about(15) != 0 ? 1 : 0);
        Due.is("the output is not at its limits", 1, control.about(19) > 0 && control.about(19) < 20 ? 1 : 0);
    }
}

import java.util.ArrayList;
import java.util.List;

/** Promise 17: undo, and what an action is. */
public final class UndoTest {
    public static void main(String[] args) {
        everyActionIsTakenBack();
        fourteenAreRemembered();
        nothingDifferentIsAnActionToo();
        refusedCallsAreNone();
        questionsAreNone();
        theTextIsNoState();
        undoGoesOnFromThere();
        Due.finish();
    }

    private static RelayTuner busy() {
        RelayTuner x = Swinging.begun();
        for (int period = 4; period <= 6; period++) {
            Swinging.add(x, period, 2);
        }
        x.save(0);
        x.restore(0);
        return x;
    }

    private static void everyActionIsTakenBack() {
        RelayTuner x = busy();
        Due.badState("undo() behind restore", x::undo);
        List<String> before = new ArrayList<>();
        Runnable[] actions = {() -> x.tick(7), () -> x.set(10, 3), () -> x.tryRule(2), () -> x.tick(2),
            () -> x.disturb(-44), () -> x.takeBack(), () -> x.discard(1), () -> x.mode(2), () -> x.set(7, 99),
            () -> x.tryRule(1), () -> x.accept(), () -> x.mode(1), () -> x.tick(30)};
        for (Runnable action : actions) {
            before.add(Due.look(x));
            action.run();
        }
        for (int k = actions.length - 1; k >= 0; k--) {
            Due.is("undo() of the action " + k, k, x.undo());
            Due.same("undo() of the action " + k, before.get(k), Due.look(x));
        }
        Due.badState("undo() of no more", x::undo);
    }

    private static void fourteenAreRemembered() {
        RelayTuner x = new RelayTuner();
        for (int k = 1; k <= 20; k++) {
            x.set(5, k);
        }
        for (int k = 13; k >= 0; k--) {
            Due.is("undo()", k, x.undo());
            Due.is("the set point behind it", 6 + k, x.about(5));
        }
        Due.badState("undo() of the fifteenth", x::undo);
        Due.is("the set point", 6, x.about(5));
    }

    private static void nothingDifferentIsAnActionToo() {
        RelayTuner x = new RelayTuner();
        x.mode(0);
        x.disturb(0);
        x.set(5, 100);
        x.accept();
        Due.is("the disturbance by 0 is counted", 1, x.account(6));
        Due.is("undo() of accept", 3, x.undo());
        Due.is("undo() of set", 2, x.undo());
        Due.is("undo() of disturb", 1, x.undo());
        Due.is("it is not counted any more", 0, x.account(6));
        Due.is("undo() of mode", 0, x.undo());
        x.tick(200);
        Due.is("undo() of 200 ticks", 0, x.undo());
        Due.is("the clock", 0, x.about(13));
        Due.is("the account", 0, x.account(0));
    }

    private static void refusedCallsAreNone() {
        RelayTuner x = new RelayTuner();
        x.set(5, 50);
        Due.badArgument("tick(0)", () -> x.tick(0));
        Due.badArgument("mode(3)", () -> x.mode(3));
        Due.badArgument("set(5, 1000)", () -> x.set(5, 1000));
        Due.badArgument("disturb(501)", () -> x.disturb(501));
        Due.badIndex("discard(0)", () -> x.discard(0));
        Due.badIndex("tryRule(9)", () -> x.tryRule(9));
        Due.badState("tryRule(0)", () -> x.tryRule(0));
        Due.badState("takeBack()", x::takeBack);
        Due.is("undo()", 0, x.undo());
        Due.is("the set point", 100, x.about(5));
    }

    private static void questionsAreNone() {
        RelayTuner x = busy();
        x.set(5, 31);
        Due.look(x);
        x.middle(true);
        x.proposal(2, 2);
        x.toleranceFor(1);
        x.outcome(1, 20, 4);
        x.bestRule(20);
        x.settlesAfter(9);
        x.runScript(3, 100055000160000L);
        x.simulate(5, 9);
        x.save(1);
        Due.is("undo()", 0, x.undo());
        Due.is("the set point", 30, x.about(5));
    }

    private static void theTextIsNoState() {
        RelayTuner x = new RelayTuner();
        x.append('G');
        x.tick(1);
        x.append('1');
        Due.is("undo()", 0, x.undo());
        Due.is("append behind it", 3, x.append('0'));
        x.tick(5);
        Due.is("save(0)", 5, x.save(0));
        Due.is("undo()", 0, x.undo());
        Due.is("the slot is no state", 5, x.restore(0));
    }

    private static void undoGoesOnFromThere() {
        RelayTuner x = new RelayTuner();
        x.mode(1);
        x.tick(20);
        x.tick(5);
        x.undo();
        Due.is("tick behind undo", 109, again(x));
        RelayTuner y = new RelayTuner();
        y.mode(1);
        y.tick(10);
        y.tick(50);
        y.undo();
        RelayTuner z = new RelayTuner();
        z.mode(1);
        z.tick(10);
        y.tick(31);
        z.tick(31);
        Due.same("undo and other ticks", Due.look(z), Due.look(y));
    }

    private static int again(RelayTuner x) {
        x.undo();
        return x.tick(17);
    }
}

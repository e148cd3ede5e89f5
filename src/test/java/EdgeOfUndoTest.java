import java.util.ArrayList;
import java.util.List;
import java.util.function.Supplier;
import java.util.function.ToIntFunction;

/** Promises 17, 27 and 28 and the section ACTIONS AND UNDO: a test for each sentence that names an edge. */
public final class EdgeOfUndoTest {
    private static final List<Supplier<RelayTuner>> ALL = List.of(RelayTuner::new, Full::inRelay, Full::inControl);

    public static void main(String[] args) {
        everyAction();
        alsoIfNothingBecomesDifferent();
        undoIsNone();
        everythingOfTheState();
        atMostFourteen();
        theOldestOneIsForgotten();
        howManyAreStillRemembered();
        noneIsRemembered();
        refusedCallsAreNotRemembered();
        loadAndRestoreAreNoActions();
        saveIsNoAction();
        slotsThatThereAre();
        nothingHasBeenSaved();
        slotsAreLookedAtFirst();
        theClockThen();
        forgetsTheRemembered();
        theSlotKeepsIt();
        textAndSlotsAreNoState();
        Due.finish();
    }

    private static void action(String call, Supplier<RelayTuner> made, ToIntFunction<RelayTuner> body) {
        RelayTuner x = made.get();
        x.save(0);
        x.restore(0);
        Due.badState("undo() of nothing before " + call, x::undo);
        String before = Due.look(x);
        body.applyAsInt(x);
        Due.is("undo() of " + call, 0, x.undo());
        Due.same("undo() of " + call, before, Due.look(x));
        Due.badState("undo() of nothing behind " + call, x::undo);
    }

    private static void everyAction() {
        Due.words("Each call of one of them that does not throw an exception is an action");
        for (Supplier<RelayTuner> made : ALL) {
            action("tick(1)", made, x -> x.tick(1));
            action("tick(200)", made, x -> x.tick(200));
            for (int mode = 0; mode <= 2; mode++) {
                int v = mode;
                action("mode(" + v + ")", made, x -> x.mode(v));
            }
            for (int what = 5; what <= 10; what++) {
                int w = what;
                action("set(" + w + ", 0)", made, x -> x.set(w, 0));
                action("set(" + w + ", 20)", made, x -> x.set(w, 20));
            }
            action("disturb(500)", made, x -> x.disturb(500));
            action("disturb(-500)", made, x -> x.disturb(-500));
            action("accept()", made, RelayTuner::accept);
        }
        for (Supplier<RelayTuner> made : ALL.subList(1, 3)) {
            action("discard(0)", made, x -> x.discard(0));
            action("discard(5)", made, x -> x.discard(5));
            action("takeBack()", made, RelayTuner::takeBack);
            for (int rule = 0; rule <= 3; rule++) {
                int r = rule;
                action("tryRule(" + r + ")", made, x -> x.tryRule(r));
            }
        }
    }

    private static void alsoIfNothingBecomesDifferent() {
        Due.words("also if nothing becomes different");
        RelayTuner x = Due.loaded("G10N08L2H20");
        x.mode(0);
        x.set(5, 100);
        x.set(7, 20);
        x.set(10, 0);
        x.accept();
        for (int k = 4; k >= 0; k--) {
            Due.is("undo()", k, x.undo());
        }
        Due.badState("undo() of no more", x::undo);
    }

    private static void undoIsNone() {
        Due.words("(undo is none)");
        RelayTuner x = new RelayTuner();
        x.set(5, 1);
        x.set(5, 2);
        x.set(5, 3);
        Due.is("undo()", 2, x.undo());
        Due.is("S", 2, x.about(5));
        Due.is("undo() again goes on back", 1, x.undo());
        Due.is("S", 1, x.about(5));
        x.set(5, 4);
        Due.is("undo() of the set behind it", 1, x.undo());
        Due.is("S", 1, x.about(5));
        Due.is("undo() of the first one", 0, x.undo());
        Due.is("S", 100, x.about(5));
    }

    private static void everythingOfTheState() {
        Due.words("the state, which consists of everything but the text and the save slots");
        for (Supplier<RelayTuner> made : ALL.subList(1, 3)) {
            RelayTuner x = made.get();
            RelayTuner y = made.get();
            x.tick(60);
            x.undo();
            Due.same("undo() of 60 ticks", Due.look(y), Due.look(x));
            x.tick(100);
            y.tick(100);
            Due.same("100 ticks behind it", Due.look(y), Due.look(x));
            x.undo();
            x.accept();
            x.undo();
            for (int k = x.about(18) - 1; k >= 0; k--) {
                Due.is("takeBack() behind undo() of accept()", k, x.takeBack());
            }
        }
    }

    private static void atMostFourteen() {
        Due.words("At most 14 states are remembered");
        for (int actions : new int[] {1, 13, 14, 15, 28, 29, 43}) {
            RelayTuner x = new RelayTuner();
            for (int k = 1; k <= actions; k++) {
                x.set(5, k);
            }
            int kept = Math.min(14, actions);
            for (int k = 1; k <= kept; k++) {
                Due.is("undo() number " + k + " of " + actions, kept - k, x.undo());
                Due.is("S behind it", actions - k == 0 ? 100 : actions - k, x.about(5));
            }
            Due.badState("undo() of one more than there are", x::undo);
            Due.is("S behind that", actions <= 14 ? 100 : actions - 14, x.about(5));
        }
    }

    private static void theOldestOneIsForgotten() {
        Due.words("when one more is remembered, the oldest one is forgotten");
        RelayTuner x = new RelayTuner();
        for (int k = 1; k <= 14; k++) {
            x.set(5, k);
        }
        for (int k = 1; k <= 5; k++) {
            x.undo();
        }
        for (int k = 101; k <= 108; k++) {
            x.set(5, k);
        }
        int[] due = {107, 106, 105, 104, 103, 102, 101, 9, 8, 7, 6, 5, 4, 3};
        for (int k = 0; k < 14; k++) {
            Due.is("undo()", 13 - k, x.undo());
            Due.is("S behind it", due[k], x.about(5));
        }
        Due.badState("undo() of one that was forgotten", x::undo);
    }

    private static void howManyAreStillRemembered() {
        Due.words("undo: Returns how many states are still remembered.");
        RelayTuner x = Full.inRelay();
        for (int k = 13; k >= 0; k--) {
            Due.is("undo()", k, x.undo());
        }
    }

    private static void noneIsRemembered() {
        Due.words("undo: IllegalStateException if none is remembered");
        Refused.state("undo()", RelayTuner::new, RelayTuner::undo);
        Refused.state("undo() of the fifteenth", EdgeOfUndoTest::undone, RelayTuner::undo);
        Refused.state("undo() behind restore", EdgeOfUndoTest::restored, RelayTuner::undo);
    }

    private static RelayTuner undone() {
        RelayTuner x = Full.inControl();
        for (int k = 1; k <= 14; k++) {
            x.undo();
        }
        return x;
    }

    private static RelayTuner restored() {
        RelayTuner x = Full.inRelay();
        x.restore(1);
        return x;
    }

    private static void refusedCallsAreNotRemembered() {
        Due.words("Each call of one of them that does not throw an exception is an action");
        RelayTuner x = new RelayTuner();
        x.set(5, 50);
        Due.badArgument("tick(0)", () -> x.tick(0));
        Due.badArgument("tick(201)", () -> x.tick(201));
        Due.badArgument("mode(-1)", () -> x.mode(-1));
        Due.badArgument("mode(3)", () -> x.mode(3));
        Due.badArgument("set(5, 1000)", () -> x.set(5, 1000));
        Due.badArgument("set(4, 0)", () -> x.set(4, 0));
        Due.badArgument("disturb(501)", () -> x.disturb(501));
        Due.badIndex("discard(0)", () -> x.discard(0));
        Due.badIndex("tryRule(4)", () -> x.tryRule(4));
        Due.badState("tryRule(0)", () -> x.tryRule(0));
        Due.badState("takeBack()", x::takeBack);
        Due.is("undo()", 0, x.undo());
        Due.badState("undo()", x::undo);
        Due.is("S", 100, x.about(5));
    }

    private static void loadAndRestoreAreNoActions() {
        Due.words("load and restore are not actions.");
        RelayTuner x = Due.loaded("G10N08L2H20");
        Due.badState("undo() of load", x::undo);
        x.save(0);
        x.restore(0);
        Due.badState("undo() of restore", x::undo);
        x.tick(1);
        Due.badState("restore(1)", () -> x.restore(1));
        Due.is("undo() behind a refused restore", 0, x.undo());
    }

    private static void saveIsNoAction() {
        Due.words("save: Stores the present state in a save slot.");
        for (int slot = 0; slot <= 1; slot++) {
            RelayTuner x = new RelayTuner();
            x.tick(4);
            String before = Due.look(x);
            Due.is("save(" + slot + ")", 4, x.save(slot));
            Due.same("save(" + slot + ")", before, Due.look(x));
            Due.is("undo() of the tick, not of save", 0, x.undo());
            Due.is("the clock", 0, x.about(13));
            Due.badState("undo() of no more", x::undo);
        }
    }

    private static void slotsThatThereAre() {
        Due.words("slot: 0 or 1; IndexOutOfBoundsException if there is no such save slot");
        for (int slot : new int[] {-1, 2, Integer.MIN_VALUE, Integer.MAX_VALUE}) {
            Refused.index("save(" + slot + ")", x -> x.save(slot));
            Refused.index("restore(" + slot + ")", x -> x.restore(slot));
        }
        RelayTuner x = new RelayTuner();
        x.tick(3);
        Due.is("save(0)", 3, x.save(0));
        x.tick(4);
        Due.is("save(1)", 7, x.save(1));
        x.tick(5);
        Due.is("restore(0)", 3, x.restore(0));
        Due.is("restore(1)", 7, x.restore(1));
        Due.is("the clock", 7, x.about(13));
    }

    private static void nothingHasBeenSaved() {
        Due.words("restore: IllegalStateException if nothing has been saved in it since the last load");
        for (int slot = 0; slot <= 1; slot++) {
            int s = slot;
            Refused.state("restore(" + s + ") of a new object", RelayTuner::new, x -> x.restore(s));
            Refused.state("restore(" + s + "), the other one is saved", () -> saved(1 - s), x -> x.restore(s));
            Refused.state("restore(" + s + ") behind a load", EdgeOfUndoTest::reloaded, x -> x.restore(s));
            RelayTuner y = reloaded();
            y.save(s);
            Due.is("restore(" + s + ") of what was saved since", 2, y.restore(s));
            RelayTuner z = saved(s);
            Due.badState("a refused load", z::load);
            Due.is("restore(" + s + ") behind it", 6, z.restore(s));
        }
    }

    private static RelayTuner saved(int slot) {
        RelayTuner x = new RelayTuner();
        x.mode(1);
        x.tick(6);
        x.save(slot);
        x.tick(2);
        return x;
    }

    private static RelayTuner reloaded() {
        RelayTuner x = Full.inRelay();
        Due.type(x, "G10N08L2H20");
        x.load();
        x.tick(2);
        return x;
    }

    private static void slotsAreLookedAtFirst() {
        Due.words("If several exceptions apply to a call, the one that its description names first is thrown.");
        Refused.index("restore(2) where nothing has been saved", RelayTuner::new, x -> x.restore(2));
        Refused.index("restore(-1) where nothing has been saved", RelayTuner::new, x -> x.restore(-1));
    }

    private static void theClockThen() {
        Due.words("save: Returns the clock. restore: Returns the clock then.");
        RelayTuner x = new RelayTuner();
        Due.is("save(0) of a new object", 0, x.save(0));
        x.tick(200);
        Due.is("save(1)", 200, x.save(1));
        Due.is("restore(0)", 0, x.restore(0));
        Due.is("restore(1)", 200, x.restore(1));
        Due.is("restore(0)", 0, x.restore(0));
    }

    private static void forgetsTheRemembered() {
        Due.words("restore: Replaces the state by the one in a save slot, and forgets all remembered states.");
        RelayTuner x = Full.inControl();
        x.save(0);
        String saved = Due.look(x);
        x.tick(100);
        x.accept();
        x.mode(1);
        x.restore(0);
        Due.same("restore(0)", saved, Due.look(x));
        Due.badState("undo() behind it", x::undo);
        x.tick(1);
        Due.is("undo() of a tick behind it", 0, x.undo());
        Due.same("undo() of a tick behind it", saved, Due.look(x));
        Due.badState("undo() of no more", x::undo);
    }

    private static void theSlotKeepsIt() {
        Due.words("restore: The save slot keeps it.");
        RelayTuner x = Full.inRelay();
        x.save(0);
        String saved = Due.look(x);
        for (int k = 1; k <= 3; k++) {
            x.tick(50 * k);
            x.disturb(k);
            x.discard(0);
            x.takeBack();
            x.restore(0);
            Due.same("restore(0) number " + k, saved, Due.look(x));
        }
        x.tick(1);
        int clock = x.save(0);
        x.tick(1);
        Due.is("restore(0) of what was saved over it", clock, x.restore(0));
        x.save(1);
        x.tick(3);
        x.save(0);
        Due.is("restore(1) is not what was saved in 0", clock, x.restore(1));
    }

    private static void textAndSlotsAreNoState() {
        Due.words("everything but the text and the save slots");
        RelayTuner x = new RelayTuner();
        x.append('G');
        x.tick(1);
        x.append('1');
        x.save(0);
        x.tick(1);
        x.append('0');
        x.save(1);
        x.undo();
        x.undo();
        Due.is("append behind undo()", 4, x.append('N'));
        Due.is("restore(1) of what was saved behind the tick", 2, x.restore(1));
        Due.is("restore(0)", 1, x.restore(0));
        Due.is("append behind restore()", 5, x.append('0'));
        x.save(0);
        List<Integer> clocks = new ArrayList<>();
        for (int k = 0; k < 2; k++) {
            clocks.add(x.restore(1 - k));
        }
        Due.is("a saved slot leaves the other one", 2, clocks.get(0));
        Due.is("and is kept itself", 1, clocks.get(1));
        Due.is("clearText", 5, x.clearText());
    }
}

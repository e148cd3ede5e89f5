/** Promises 14, 15, 16 and 19: tryRule, takeBack, accept, proposal. */
public final class RuleTest {
    private static final int NONE = RelayTuner.NONE;

    public static void main(String[] args) {
        proposals();
        averages();
        limits();
        proposalRefuses();
        trials();
        trialsKeepTheControl();
        tryRuleRefuses();
        takesBack();
        accepts();
        Due.finish();
    }

    /** A tuner with one good swing of the period 5 and the span 61, so that K = 127 * 99 / 61 = 206. */
    private static RelayTuner withGoodSwing() {
        RelayTuner x = Swinging.begun();
        Swinging.add(x, 9, 5);
        Swinging.add(x, 5, 2);
        return x;
    }

    private static void proposed(String when, RelayTuner x, int rule, int p, int i, int d) {
        Due.is(when + ", P of the rule " + rule, p, x.proposal(rule, 0));
        Due.is(when + ", I of the rule " + rule, i, x.proposal(rule, 1));
        Due.is(when + ", D of the rule " + rule, d, x.proposal(rule, 2));
    }

    private static void proposals() {
        RelayTuner x = withGoodSwing();
        String before = Due.look(x);
        proposed("K 206", x, 0, 103, 0, 0);
        proposed("K 206", x, 1, 92, 22, 0);
        proposed("K 206", x, 2, 123, 49, 76);
        proposed("K 206", x, 3, 41, 16, 68);
        Due.same("proposal", before, Due.look(x));
    }

    // Of the periods 5 5 6 the first two are 11 / 2, rounded down; a span of 11 beside 61 is odd with 20 percent.
    private static void averages() {
        RelayTuner x = Swinging.begun();
        Swinging.add(x, 2, 5);
        Swinging.add(x, 5, 2);
        Swinging.add(x, 6, 2);
        proposed("periods 5 6", x, 2, 123, 49, 76);
        Swinging.add(x, 5, 1);
        Due.is("the middle of the spans 61 61 11", 61, x.middle(true));
        proposed("spans 61 61 and an odd 11", x, 2, 123, 49, 76);
        x.set(7, 99);
        // The span is 133 / 3 = 44, the period 16 / 3 = 5, K = 12573 / 44 = 285.
        proposed("spans 61 61 11", x, 0, 142, 0, 0);
        proposed("spans 61 61 11", x, 1, 128, 30, 0);
        proposed("spans 61 61 11", x, 2, 171, 68, 106);
        proposed("spans 61 61 11", x, 3, 57, 22, 95);
    }

    private static void limits() {
        RelayTuner x = Swinging.begun();
        Swinging.addFlat(x, 9);
        Swinging.addFlat(x, 1);
        // The span is at least 1: K = 12573.
        proposed("a flat swing", x, 0, 6286, 0, 0);
        proposed("a flat swing", x, 1, 5657, 6788, 0);
        proposed("a flat swing", x, 2, 7543, 9999, 942);
        proposed("a flat swing", x, 3, 2514, 5028, 838);
        x.discard(1);
        Swinging.addFlat(x, 20);
        proposed("a long flat swing", x, 1, 5657, 339, 0);
        proposed("a long flat swing", x, 2, 7543, 754, 9999);
        proposed("a long flat swing", x, 3, 2514, 251, 9999);
    }

    private static void proposalRefuses() {
        RelayTuner x = new RelayTuner();
        Due.badIndex("proposal(-1, 0)", () -> x.proposal(-1, 0));
        Due.badIndex("proposal(4, 0)", () -> x.proposal(4, 0));
        Due.badIndex("proposal(4, 3)", () -> x.proposal(4, 3));
        Due.badArgument("proposal(0, 3)", () -> x.proposal(0, 3));
        Due.badArgument("proposal(3, -1)", () -> x.proposal(3, -1));
        proposed("no swing", x, 3, NONE, NONE, NONE);
        RelayTuner y = Swinging.begun();
        Swinging.add(y, 5, 2);
        proposed("number 0 alone", y, 0, NONE, NONE, NONE);
    }

    private static void settings(String when, RelayTuner x, int p, int i, int d, int mode, int open) {
        Due.is(when + ": P", p, x.about(8));
        Due.is(when + ": I", i, x.about(9));
        Due.is(when + ": D", d, x.about(10));
        Due.is(when + ": the mode", mode, x.about(11));
        Due.is(when + ": open trials", open, x.about(18));
    }

    private static void trials() {
        RelayTuner x = withGoodSwing();
        x.set(8, 11);
        x.set(9, 12);
        x.set(10, 13);
        Due.is("tryRule(2)", 123, x.tryRule(2));
        settings("behind tryRule(2)", x, 123, 49, 76, 2, 1);
        Due.is("the relay", 0, x.about(14));
        Due.is("tryRule(0)", 103, x.tryRule(0));
        settings("behind tryRule(0)", x, 103, 0, 0, 2, 2);
        x.set(8, 1);
        x.mode(0);
        Due.is("tryRule(3)", 41, x.tryRule(3));
        settings("behind tryRule(3)", x, 41, 16, 68, 2, 3);
        Due.is("takeBack()", 2, x.takeBack());
        settings("behind the first takeBack()", x, 1, 0, 0, 0, 2);
        Due.is("takeBack()", 1, x.takeBack());
        settings("behind the second takeBack()", x, 123, 49, 76, 2, 1);
        Due.is("takeBack()", 0, x.takeBack());
        settings("behind the third takeBack()", x, 11, 12, 13, 1, 0);
        Due.is("the relay is on again", 1, x.about(14));
        Due.badState("takeBack() without open trials", x::takeBack);
    }

    private static void trialsKeepTheControl() {
        RelayTuner x = withGoodSwing();
        x.set(8, 1);
        x.mode(2);
        x.tick(1);
        int sum = x.about(15);
        Due.is("the sum", 30 - 39, sum);
        x.tryRule(0);
        Due.is("the sum behind a trial in the mode 2", sum, x.about(15));
        x.takeBack();
        Due.is("the sum behind its end", sum, x.about(15));
        x.mode(1);
        x.tryRule(0);
        Due.is("the sum behind a trial in the mode 1", 0, x.about(15));
        x.takeBack();
        x.disturb(100);
        x.tick(1);
        Due.is("the relay went off", 0, x.about(14));
        x.mode(0);
        x.tryRule(0);
        x.takeBack();
        Due.is("back in the mode 0", 0, x.about(11));
        Due.is("the relay stays off", 0, x.about(14));
    }

    private static void tryRuleRefuses() {
        RelayTuner x = new RelayTuner();
        Due.badIndex("tryRule(4) without good swings", () -> x.tryRule(4));
        Due.badIndex("tryRule(-1) without good swings", () -> x.tryRule(-1));
        Due.badState("tryRule(3) without good swings", () -> x.tryRule(3));
        RelayTuner y = withGoodSwing();
        for (int k = 1; k <= 8; k++) {
            y.tryRule(k % 4);
            Due.is("open trials", k, y.about(18));
        }
        String before = Due.look(y);
        Due.badState("tryRule(0) with eight open trials", () -> y.tryRule(0));
        Due.badIndex("tryRule(4) with eight open trials", () -> y.tryRule(4));
        Due.same("refused trials", before, Due.look(y));
        Due.is("outcome with eight open trials", y.ahead(1, 0), y.outcome(0, 1, 0));
        y.takeBack();
        Due.is("tryRule(1) with seven", 92, y.tryRule(1));
        Due.is("open trials", 8, y.about(18));
    }

    private static void takesBack() {
        RelayTuner x = new RelayTuner();
        String before = Due.look(x);
        Due.badState("takeBack() in a new object", x::takeBack);
        Due.badState("undo() behind it", x::undo);
        Due.same("refused takeBack()", before, Due.look(x));
    }

    private static void accepts() {
        RelayTuner x = withGoodSwing();
        Due.is("accept() without open trials", 0, x.accept());
        x.tryRule(2);
        x.tryRule(3);
        Due.is("accept()", 2, x.accept());
        settings("behind accept()", x, 41, 16, 68, 2, 0);
        Due.badState("takeBack() behind accept()", x::takeBack);
        Due.is("undo() of accept() and no more", 2, openBehindUndo(x));
        Due.is("takeBack() behind it", 1, x.takeBack());
        settings("behind that", x, 123, 49, 76, 2, 1);
    }

    private static int openBehindUndo(RelayTuner x) {
        x.undo();
        return x.about(18);
    }
}

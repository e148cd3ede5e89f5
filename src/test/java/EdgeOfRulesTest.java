/** Promises 14, 15, 16 and 19 and the section RULES: a test for each sentence that names an edge. */
public final class EdgeOfRulesTest {
    private static final int NONE = RelayTuner.NONE;

    public static void main(String[] args) {
        ifThereIsAGoodSwing();
        ofTheGoodSwings();
        withoutTheDiscarded();
        spanAtLeast1();
        roundedDown();
        eachRule();
        whatIsNotNamedIs0();
        noMoreThan9999();
        smallK();
        rulesThatThereAre();
        settingsThatThereAre();
        atMostEightTrials();
        noGoodSwingNoTrial();
        rulesAreLookedAtFirst();
        rememberedByTheLatest();
        asByMode();
        asByModeInTheMode1();
        noTrialIsOpen();
        acceptKeeps();
        Due.finish();
    }

    private static void proposed(String of, RelayTuner x, int rule, int p, int i, int d) {
        Due.is(of + ": P of the rule " + rule, p, x.proposal(rule, 0));
        Due.is(of + ": I of the rule " + rule, i, x.proposal(rule, 1));
        Due.is(of + ": D of the rule " + rule, d, x.proposal(rule, 2));
    }

    private static void none(String of, RelayTuner x) {
        for (int rule = 0; rule <= 3; rule++) {
            proposed(of, x, rule, NONE, NONE, NONE);
        }
    }

    /** A tuner with one good swing, of this period and span. */
    private static RelayTuner good(int fullPower, int period, int span) {
        return Made.of(fullPower, new int[] {9, 9}, new int[] {period, span});
    }

    private static void ifThereIsAGoodSwing() {
        Due.words("A rule proposes settings, if there is a good swing. (proposal: NONE if there is no good swing)");
        none("no swing", new RelayTuner());
        none("number 0 alone", Made.ofPeriods(6, 5));
        RelayTuner odd = Made.of(50, new int[] {9, 9}, new int[] {10, 80}, new int[] {20, 9});
        none("two odd ones", odd);
        RelayTuner x = Made.ofPeriods(6, 9, 5);
        proposed("one good swing", x, 0, 127 * 50 / 6 / 2, 0, 0);
        x.discard(0);
        none("the only good one is number 0 now", x);
    }

    private static void ofTheGoodSwings() {
        Due.words("Let s be the sum of the spans of the good swings divided by their number, but at least 1, and p the "
            + "same of their periods");
        // 10 10 11 are good, 90 is odd by its span, 40 by its period; number 0 is none of them.
        RelayTuner x = Made.of(50, new int[] {99, 99}, new int[] {10, 100}, new int[] {10, 104}, new int[] {11, 110},
                new int[] {10, 190}, new int[] {40, 104});
        Due.is("good swings", 3, x.about(17));
        // s = 314 / 3 = 104, p = 31 / 3 = 10, K = 6350 / 104 = 61.
        proposed("of the good ones", x, 2, 36, 7, 45);
        x.set(7, 99);
        // s = 504 / 4 = 126, p = 41 / 4 = 10, K = 50; the period 40 is still odd.
        Due.is("good swings", 4, x.about(17));
        proposed("of four", x, 2, 30, 6, 37);
    }

    private static void withoutTheDiscarded() {
        Due.words("discard: Forgets a swing");
        for (int gone = 1; gone <= 3; gone++) {
            RelayTuner x = Made.of(50, new int[] {10, 100}, new int[] {10, 100}, new int[] {11, 104},
                    new int[] {12, 110});
            int[] spans = {0, 100, 104, 110};
            int s = (314 - spans[gone]) / 2;
            int p = (33 - 9 - gone) / 2;
            x.discard(gone);
            Due.is("good swings", 2, x.about(17));
            int k = 6350 / s * 6 / 10;
            proposed("behind discard(" + gone + ")", x, 2, k, k * 2 / p, k * p / 8);
        }
    }

    private static void spanAtLeast1() {
        Due.words("but at least 1");
        RelayTuner flat = good(50, 5, 0);
        proposed("a span of 0", flat, 0, 127 * 50 / 2, 0, 0);
        proposed("a span of 1", good(50, 5, 1), 0, 127 * 50 / 2, 0, 0);
        proposed("a span of 2", good(50, 5, 2), 0, 127 * 50 / 2 / 2, 0, 0);
        RelayTuner two = Made.of(50, new int[] {9, 9}, new int[] {5, 0}, new int[] {5, 0});
        proposed("two spans of 0", two, 0, 127 * 50 / 2, 0, 0);
        RelayTuner short1 = Made.of(50, new int[] {9, 9}, new int[] {1, 0});
        proposed("a period of 1", short1, 1, 2857, 2857 * 12 / 10, 0);
    }

    private static void roundedDown() {
        Due.words("both rounded down; let K be 127 * H / s. All divisions are rounded down");
        RelayTuner x = Made.of(99, new int[] {9, 9}, new int[] {5, 50}, new int[] {6, 51});
        // s = 101 / 2 = 50, p = 11 / 2 = 5, K = 12573 / 50 = 251.
        proposed("K 251, p 5", x, 0, 125, 0, 0);
        proposed("K 251, p 5", x, 1, 112, 26, 0);
        proposed("K 251, p 5", x, 2, 150, 60, 93);
        proposed("K 251, p 5", x, 3, 50, 20, 83);
        Made.swing(x, 6, 52);
        // s = 153 / 3 = 51, p = 17 / 3 = 5, K = 246.
        proposed("K 246, p 5", x, 2, 147, 58, 91);
        Made.swing(x, 7, 51);
        Due.is("the period 7 is good", 4, x.about(17));
        // s = 51, p = 24 / 4 = 6.
        proposed("K 246, p 6", x, 2, 147, 49, 110);
    }

    private static void eachRule() {
        Due.words("The rule 0 proposes P = K / 2; the rule 1 P = K * 45 / 100 and I = P * 12 / (10 * p); the rule 2 "
            + "P = K * 6 / 10, I = P * 2 / p and D = P * p / 8; the rule 3 P = K * 2 / 10, I = P * 2 / p and "
            + "D = P * p / 3");
        for (int span : new int[] {1, 7, 20, 55}) {
            for (int period : new int[] {2, 3, 7, 10}) {
                RelayTuner x = good(77, period, span);
                int k = 127 * 77 / span;
                int p1 = k * 45 / 100;
                int p2 = k * 6 / 10;
                int p3 = k * 2 / 10;
                String of = "the span " + span + " and the period " + period;
                proposed(of, x, 0, k / 2, 0, 0);
                proposed(of, x, 1, p1, p1 * 12 / (10 * period), 0);
                proposed(of, x, 2, p2, p2 * 2 / period, p2 * period / 8);
                proposed(of, x, 3, p3, p3 * 2 / period, p3 * period / 3);
            }
        }
    }

    private static void whatIsNotNamedIs0() {
        Due.words("what is not named is 0");
        RelayTuner x = good(50, 5, 10);
        x.set(9, 77);
        x.set(10, 88);
        x.tryRule(0);
        Due.is("I of the rule 0", 0, x.about(9));
        Due.is("D of the rule 0", 0, x.about(10));
        x.takeBack();
        x.tryRule(1);
        Due.is("D of the rule 1", 0, x.about(10));
        x.takeBack();
        Due.is("I is back", 77, x.about(9));
        Due.is("D is back", 88, x.about(10));
    }

    private static void noMoreThan9999() {
        Due.words("and no setting is more than 9999");
        // 2857 * 28 / 8 is 9999 by itself, 3200 * 25 / 8 is 10000.
        proposed("9999 by itself", good(75, 28, 2), 2, 2857, 204, 9999);
        proposed("10000", good(42, 25, 1), 2, 3200, 256, 9999);
        proposed("2857 * 27 / 8", good(75, 27, 2), 2, 2857, 211, 9642);
        // 283 * 106 / 3 is 9999 by itself, 283 * 107 / 3 is 10093.
        proposed("9999 by itself", good(67, 106, 6), 3, 283, 5, 9999);
        proposed("10093", good(67, 107, 6), 3, 283, 5, 9999);
        // The period 1 and the span 0: I is 2 * P.
        proposed("I 9906", Made.of(65, new int[] {9, 9}, new int[] {1, 0}), 2, 4953, 9906, 619);
        proposed("I 10058", Made.of(66, new int[] {9, 9}, new int[] {1, 0}), 2, 5029, 9999, 628);
        RelayTuner x = Made.of(99, new int[] {9, 9}, new int[] {1, 0});
        proposed("the greatest P", x, 0, 6286, 0, 0);
        proposed("the greatest P", x, 1, 5657, 6788, 0);
        proposed("the greatest P", x, 2, 7543, 9999, 942);
        proposed("the greatest P", x, 3, 2514, 5028, 838);
        x.tryRule(2);
        Due.is("I of the trial", 9999, x.about(9));
    }

    private static void smallK() {
        Due.words("let K be 127 * H / s");
        for (int rule = 0; rule <= 3; rule++) {
            proposed("K 0", good(1, 5, 128), rule, 0, 0, 0);
            proposed("K 1", good(1, 5, 127), rule, 0, 0, 0);
        }
        proposed("K 2", good(1, 5, 63), 0, 1, 0, 0);
        proposed("K 2", good(1, 5, 63), 1, 0, 0, 0);
        proposed("K 2", good(1, 5, 63), 2, 1, 0, 0);
        RelayTuner x = good(1, 5, 128);
        Due.is("tryRule(2), which proposes nothing but 0", 0, x.tryRule(2));
        Due.is("open trials", 1, x.about(18));
        Due.is("the mode", 2, x.about(11));
    }

    private static void rulesThatThereAre() {
        Due.words("rule: 0 to 3; IndexOutOfBoundsException if there is no such rule");
        for (int rule : new int[] {-1, 4, Integer.MIN_VALUE, Integer.MAX_VALUE}) {
            Refused.index("proposal(" + rule + ", 0)", x -> x.proposal(rule, 0));
            Refused.index("tryRule(" + rule + ")", x -> x.tryRule(rule));
        }
        for (int rule = 0; rule <= 3; rule++) {
            int r = rule;
            RelayTuner x = Full.inRelay();
            int p = x.proposal(rule, 0);
            int i = x.proposal(rule, 1);
            int d = x.proposal(rule, 2);
            Due.is("tryRule(" + rule + ")", p, x.tryRule(rule));
            Due.is("about(8)", p, x.about(8));
            Due.is("about(9)", i, x.about(9));
            Due.is("about(10)", d, x.about(10));
            Due.is("about(11)", 2, x.about(11));
            Refused.nothing("proposal(" + r + ", 0)", y -> y.proposal(r, 0));
        }
    }

    private static void settingsThatThereAre() {
        Due.words("proposal: IllegalArgumentException if what is not 0 to 2");
        for (int what : new int[] {-1, 3, Integer.MIN_VALUE, Integer.MAX_VALUE}) {
            Refused.argument("proposal(3, " + what + ")", x -> x.proposal(3, what));
        }
        Due.words("If several exceptions apply to a call, the one that its description names first is thrown.");
        Refused.index("proposal(4, 3)", x -> x.proposal(4, 3));
        Refused.index("proposal(-1, -1)", x -> x.proposal(-1, -1));
        Due.is("proposal(0, 2)", 0, good(50, 5, 10).proposal(0, 2));
    }

    private static RelayTuner withOpen(int trials) {
        RelayTuner x = good(50, 5, 10);
        x.save(1);
        for (int k = 1; k <= trials; k++) {
            x.set(8, k);
            x.tryRule(k % 4);
        }
        return x;
    }

    private static void atMostEightTrials() {
        Due.words("at most 8 trials are open; tryRule: IllegalStateException if 8 trials are open");
        for (int k = 0; k <= 8; k++) {
            Due.is("open trials", k, withOpen(k).about(18));
        }
        Due.is("tryRule(2) with seven", 381, withOpen(7).tryRule(2));
        Refused.state("tryRule(2) with eight", () -> withOpen(8), x -> x.tryRule(2));
        RelayTuner x = withOpen(8);
        Due.is("takeBack() of eight", 7, x.takeBack());
        Due.is("P of before the eighth", 8, x.about(8));
        Due.is("tryRule(2) again", 381, x.tryRule(2));
        Due.badState("tryRule(2) once more", () -> x.tryRule(2));
        Due.is("accept()", 8, x.accept());
        Due.is("tryRule(2) behind accept()", 381, x.tryRule(2));
        Due.is("open trials", 1, x.about(18));
    }

    private static void noGoodSwingNoTrial() {
        Due.words("tryRule: IllegalStateException if there is no good swing");
        for (int rule = 0; rule <= 3; rule++) {
            int r = rule;
            Refused.state("tryRule(" + r + ")", RelayTuner::new, x -> x.tryRule(r));
            Refused.state("tryRule(" + r + ")", () -> Made.ofPeriods(6, 5), x -> x.tryRule(r));
        }
        int[][] odd = {{9, 9}, {10, 80}, {20, 9}};
        Refused.state("tryRule(0), all are odd", () -> Made.of(50, odd), x -> x.tryRule(0));
        Due.is("tryRule(0) with one good swing", 127 * 50 / 6 / 2, Made.ofPeriods(6, 5, 5).tryRule(0));
    }

    private static void rulesAreLookedAtFirst() {
        Due.words("If several exceptions apply to a call, the one that its description names first is thrown.");
        Refused.index("tryRule(4) without a good swing", RelayTuner::new, x -> x.tryRule(4));
        Refused.index("tryRule(-1) without a good swing", RelayTuner::new, x -> x.tryRule(-1));
        Refused.index("tryRule(4) with eight trials", () -> withOpen(8), x -> x.tryRule(4));
        Refused.index("tryRule(-1) with eight trials", () -> withOpen(8), x -> x.tryRule(-1));
    }

    private static void settings(String when, RelayTuner x, int p, int i, int d, int mode, int open) {
        Due.is(when + ": P", p, x.about(8));
        Due.is(when + ": I", i, x.about(9));
        Due.is(when + ": D", d, x.about(10));
        Due.is(when + ": the mode", mode, x.about(11));
        Due.is(when + ": open trials", open, x.about(18));
    }

    private static void rememberedByTheLatest() {
        Due.words("Taking a trial back puts the settings and the mode that were remembered by the latest open one into "
            + "place.");
        RelayTuner x = good(50, 5, 10);
        for (int k = 0; k < 8; k++) {
            x.set(8, 10 + k);
            x.set(9, 20 + k);
            x.set(10, 30 + k);
            x.mode(k % 3);
            x.tryRule(k % 4);
            Due.is("open trials", k + 1, x.about(18));
        }
        x.set(7, 1);
        x.set(5, 500);
        for (int k = 7; k >= 0; k--) {
            Due.is("takeBack()", k, x.takeBack());
            settings("behind takeBack() of " + k, x, 10 + k, 20 + k, 30 + k, k % 3, k);
        }
        Due.is("the tolerance is no setting", 1, x.about(7));
        Due.is("the set point is no setting", 500, x.about(5));
        Due.badState("takeBack() of no more", x::takeBack);
    }

    private static void asByMode() {
        Due.words("(The mode becomes them as by mode(), so nothing of the control begins anew if the mode is 2 "
            + "already.)");
        RelayTuner x = good(50, 5, 10);
        x.set(8, 0);
        x.set(5, 900);
        x.mode(2);
        x.tick(2);
        int sum = x.about(15);
        x.tryRule(2);
        Due.is("the sum behind a trial in the mode 2", sum, x.about(15));
        x.set(8, 0);
        x.set(9, 0);
        x.set(10, 100);
        Due.heat(x, -17);
        x.save(0);
        x.tick(1);
        Due.is("d goes on in the trial", 17, x.about(19));
        x.restore(0);
        x.takeBack();
        Due.is("the sum behind the end of the trial", sum, x.about(15));
        x.set(10, 100);
        x.tick(1);
        Due.is("d goes on behind the end, too", 17, x.about(19));
        RelayTuner y = good(50, 5, 10);
        y.mode(2);
        y.set(8, 0);
        y.tick(1);
        y.mode(1);
        y.tryRule(0);
        Due.is("the sum begins anew, if the mode was another one", 0, y.about(15));
        y.set(8, 0);
        y.tick(3);
        y.mode(0);
        y.tryRule(0);
        y.mode(0);
        y.takeBack();
        Due.is("back in the mode 0 from the mode 0", 0, y.about(11));
        y.takeBack();
        Due.is("back in the mode 1", 1, y.about(11));
        Due.is("the relay is on", 1, y.about(14));
    }

    private static void asByModeInTheMode1() {
        Due.words("(The mode becomes them as by mode() ..)");
        RelayTuner x = good(50, 5, 10);
        x.tryRule(0);
        x.mode(1);
        Due.heat(x, 0);
        x.tick(1);
        Due.heat(x, 30);
        x.tick(1);
        Due.is("the relay is off", 0, x.about(14));
        int swings = x.about(16);
        Due.is("takeBack() to the mode that there is", 0, x.takeBack());
        Due.is("the relay stays off", 0, x.about(14));
        Made.swing(x, 4, 9);
        Due.is("the swing goes on", swings + 1, x.about(16));
        Due.is("its period", 5, x.swing(swings, 0));
    }

    private static void noTrialIsOpen() {
        Due.words("takeBack: IllegalStateException if no trial is open");
        Refused.state("takeBack()", RelayTuner::new, RelayTuner::takeBack);
        Refused.state("takeBack()", () -> good(50, 5, 10), RelayTuner::takeBack);
        Refused.state("takeBack() behind accept()", EdgeOfRulesTest::accepted, RelayTuner::takeBack);
        RelayTuner x = withOpen(1);
        Due.is("takeBack() of one", 0, x.takeBack());
        Due.badState("takeBack() of none", x::takeBack);
        Due.words("Returns how many trials are open then.");
        for (int k = 1; k <= 8; k++) {
            Due.is("takeBack() of " + k, k - 1, withOpen(k).takeBack());
        }
    }

    private static RelayTuner accepted() {
        RelayTuner x = Full.inControl();
        x.accept();
        return x;
    }

    private static void acceptKeeps() {
        Due.words("accept: Keeps what the open trials made: no trial is open then. Returns how many trials were open.");
        for (int k = 0; k <= 8; k++) {
            RelayTuner x = withOpen(k);
            int[] before = {x.about(8), x.about(9), x.about(10), x.about(11)};
            Due.is("accept() of " + k, k, x.accept());
            settings("behind accept() of " + k, x, before[0], before[1], before[2], before[3], 0);
            Due.is("accept() again", 0, x.accept());
            x.undo();
            x.undo();
            Due.is("open trials behind undo() of both", k, x.about(18));
        }
        RelayTuner y = withOpen(3);
        y.accept();
        y.set(8, 5);
        y.tryRule(0);
        y.takeBack();
        Due.is("only what the new trial remembered comes back", 5, y.about(8));
        Due.badState("takeBack() of an accepted one", y::takeBack);
    }
}

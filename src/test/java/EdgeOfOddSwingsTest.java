/** Promises 13, 18 and 20 and what the section SWINGS tells of odd swings: a test for each sentence with an edge. */
public final class EdgeOfOddSwingsTest {
    private static final int NONE = RelayTuner.NONE;

    public static void main(String[] args) {
        firstReason();
        theNumber0();
        periodsThatAreOdd();
        spansThatAreOdd();
        toleranceOf0();
        toleranceOf99();
        middleOf0();
        whichIsTheMiddle();
        middleOfAllButNumber0();
        oddOnesToo();
        fewerThanTwo();
        numberOfGoodSwings();
        smallestTolerance();
        toleranceForAsManyAsThereAre();
        toleranceForRefuses();
        discards();
        laterNumbersDecrease();
        lowsOfLaterNumbers();
        discardRefuses();
        Due.finish();
    }

    private static void reasons(String of, RelayTuner x, int tolerance, int... due) {
        x.set(7, tolerance);
        int good = 0;
        for (int j = 0; j < due.length; j++) {
            Due.is(of + ": the reason of " + j + " with the tolerance " + tolerance, due[j], x.swing(j, 3));
            good += due[j] == 0 ? 1 : 0;
        }
        Due.is(of + ": good swings with the tolerance " + tolerance, good, x.about(17));
    }

    private static void firstReason() {
        Due.words("A swing is odd for the first of these reasons that applies");
        // Number 0 has another period and another span, number 4 as well, 5 another span alone, 6 another period.
        RelayTuner x = Made.of(50, new int[] {9, 90}, new int[] {5, 50}, new int[] {5, 50}, new int[] {5, 50},
                new int[] {9, 90}, new int[] {5, 90}, new int[] {9, 50});
        reasons("periods and spans", x, 20, 1, 0, 0, 0, 2, 3, 2);
        reasons("periods and spans", x, 79, 1, 0, 0, 0, 2, 3, 2);
        reasons("periods and spans", x, 80, 1, 0, 0, 0, 0, 0, 0);
    }

    private static void theNumber0() {
        Due.words("1: it is the number 0");
        RelayTuner x = Made.ofPeriods(50, 5, 5, 5);
        reasons("three that are the same", x, 20, 1, 0, 0);
        reasons("three that are the same", x, 99, 1, 0, 0);
        x.discard(0);
        reasons("the last two of them", x, 20, 1, 0);
        x.discard(0);
        reasons("the last one", x, 20, 1);
    }

    // The middle period of 39 40 50 50 50 60 61 is 50, by 20 and by 22 percent.
    private static void periodsThatAreOdd() {
        Due.words("2: its period p and the middle period q have |p - q| * 100 greater than tolerance * q");
        RelayTuner x = Made.ofPeriods(30, 33, 50, 50, 50, 60, 61, 40, 39);
        Due.is("the middle period", 50, x.middle(false));
        reasons("periods", x, 20, 1, 0, 0, 0, 0, 2, 0, 2);
        reasons("periods", x, 19, 1, 0, 0, 0, 2, 2, 2, 2);
        reasons("periods", x, 21, 1, 0, 0, 0, 0, 2, 0, 2);
        reasons("periods", x, 22, 1, 0, 0, 0, 0, 0, 0, 0);
        // 1 of 33 is 3.03 percent: rounded nowhere.
        RelayTuner y = Made.ofPeriods(30, 9, 33, 33, 34, 32);
        reasons("33", y, 3, 1, 0, 0, 2, 2);
        reasons("33", y, 4, 1, 0, 0, 0, 0);
    }

    private static void spansThatAreOdd() {
        Due.words("3: its span (high - low) and the middle span in the same way");
        RelayTuner x = Made.ofSpans(5, 33, 50, 50, 50, 60, 61, 40, 39);
        Due.is("the middle span", 50, x.middle(true));
        reasons("spans", x, 20, 1, 0, 0, 0, 0, 3, 0, 3);
        reasons("spans", x, 19, 1, 0, 0, 0, 3, 3, 3, 3);
        reasons("spans", x, 21, 1, 0, 0, 0, 0, 3, 0, 3);
        reasons("spans", x, 22, 1, 0, 0, 0, 0, 0, 0, 0);
        RelayTuner y = Made.ofSpans(5, 9, 33, 33, 34, 32);
        reasons("33", y, 3, 1, 0, 0, 3, 3);
        reasons("33", y, 4, 1, 0, 0, 0, 0);
    }

    private static void toleranceOf0() {
        Due.words("a tolerance, 0 to 99 percent");
        reasons("periods", Made.ofPeriods(30, 9, 50, 50, 51, 49), 0, 1, 0, 0, 2, 2);
        reasons("spans", Made.ofSpans(9, 9, 50, 50, 51, 49), 0, 1, 0, 0, 3, 3);
    }

    // 199 is 99 percent more than 100, 200 is 100; 1 is 99 percent less, 0 is 100.
    private static void toleranceOf99() {
        Due.words("a tolerance, 0 to 99 percent");
        RelayTuner x = Made.ofSpans(3, 9, 100, 100, 100, 199, 200, 1, 0);
        Due.is("the middle span", 100, x.middle(true));
        reasons("spans", x, 99, 1, 0, 0, 0, 0, 3, 0, 3);
        reasons("spans", x, 98, 1, 0, 0, 0, 3, 3, 3, 3);
        RelayTuner y = Made.ofPeriods(60, 9, 100, 100, 199, 200, 1);
        Due.is("the middle period", 100, y.middle(false));
        y.set(7, 99);
        Due.is("the reason of 199", 0, y.swing(3, 3));
        Due.is("the reason of 200", 2, y.swing(4, 3));
        // The period 1 has the span 0: its period is good, its span is not.
        Due.is("the reason of 1", 3, y.swing(5, 3));
    }

    private static void middleOf0() {
        Due.words("|p - q| * 100 greater than tolerance * q (the middle span may be 0)");
        RelayTuner x = Made.ofSpans(3, 9, 0, 0, 1);
        Due.is("the middle span", 0, x.middle(true));
        reasons("spans beside 0", x, 99, 1, 0, 0, 3);
        reasons("spans beside 0", x, 0, 1, 0, 0, 3);
    }

    private static void whichIsTheMiddle() {
        Due.words("The middle of k numbers is the one with the number (k - 1) / 2, rounded down, if they are ordered "
            + "from the smallest on");
        int[] made = {2, 9, 4, 7, 3, 8, 5, 6, 9, 4};
        int[] due = {0, 9, 4, 7, 4, 7, 5, 6, 6, 6};
        RelayTuner x = Made.begun();
        RelayTuner y = Made.begun();
        for (int k = 0; k < made.length; k++) {
            Made.swing(x, made[k], 30);
            Made.swing(y, 3, made[k]);
            if (k > 0) {
                Due.is("the middle period of " + k, due[k], x.middle(false));
                Due.is("the middle span of " + k, due[k], y.middle(true));
            }
        }
        RelayTuner z = Made.begun();
        for (int k = 20; k >= 1; k--) {
            Made.swing(z, 1 + k, 2 * k);
        }
        // All twenty: 19 down to 1 beside number 0, and the number 9 of them.
        Due.is("the middle period of nineteen", 11, z.middle(false));
        Due.is("the middle span of nineteen", 20, z.middle(true));
    }

    private static void middleOfAllButNumber0() {
        Due.words("it is taken of all swings but number 0");
        RelayTuner x = Made.of(50, new int[] {2, 3}, new int[] {8, 30}, new int[] {9, 40});
        Due.is("the middle period of 8 9", 8, x.middle(false));
        Due.is("the middle span of 30 40", 30, x.middle(true));
        x.discard(0);
        Due.is("the middle period of 9", 9, x.middle(false));
        Due.is("the middle span of 40", 40, x.middle(true));
        Made.swing(x, 4, 20);
        Due.is("the middle period of 9 4", 4, x.middle(false));
        Due.is("the middle span of 40 20", 20, x.middle(true));
    }

    private static void oddOnesToo() {
        Due.words("odd ones, too");
        RelayTuner x = Made.ofPeriods(20, 9, 10, 30, 31, 32);
        x.set(7, 0);
        Due.is("the middle period of 10 30 31 32", 30, x.middle(false));
        Due.is("good swings", 1, x.about(17));
        RelayTuner y = Made.of(50, new int[] {9, 9}, new int[] {10, 80}, new int[] {20, 9}, new int[] {30, 5});
        Due.is("the middle period of 10 20 30", 20, y.middle(false));
        Due.is("the middle span of 80 9 5", 9, y.middle(true));
        Due.words("The others are good.");
        // The one with the middle period has another span, so that no swing is good.
        RelayTuner z = Made.of(50, new int[] {9, 9}, new int[] {10, 80}, new int[] {20, 9});
        reasons("none is good", z, 20, 1, 3, 2);
    }

    private static void fewerThanTwo() {
        Due.words("middle: NONE if there are fewer than 2 swings");
        RelayTuner x = new RelayTuner();
        for (boolean span : new boolean[] {false, true}) {
            Due.is("the middle of none", NONE, x.middle(span));
            Due.is("the middle of one", NONE, Made.ofPeriods(0, 5).middle(span));
            Due.is("the middle of two", span ? 0 : 4, Made.ofPeriods(0, 5, 4).middle(span));
            Refused.nothing("middle", y -> y.middle(span));
        }
        RelayTuner y = Made.ofPeriods(7, 5, 4);
        y.discard(1);
        Due.is("the middle behind a discard", NONE, y.middle(false));
    }

    private static void numberOfGoodSwings() {
        Due.words("about: 16: the number of swings; 17: of good swings");
        RelayTuner x = Made.begun();
        for (int k = 1; k <= 22; k++) {
            Made.swing(x, 5, 20);
            Due.is("swings", Math.min(20, k), x.about(16));
            Due.is("good swings", Math.min(20, k) - 1, x.about(17));
        }
    }

    private static void smallestTolerance() {
        Due.words("toleranceFor: Returns the smallest tolerance, 0 to 99, with which at least n swings are good; NONE "
            + "if there is none.");
        RelayTuner x = Made.ofSpans(3, 9, 100, 100, 100, 120, 199, 200, 1, 0);
        int[] due = {0, 0, 0, 20, 99, 99, NONE, NONE, NONE};
        for (int n = 1; n <= 9; n++) {
            Due.is("toleranceFor(" + n + ")", due[n - 1], x.toleranceFor(n));
        }
        x.set(7, 0);
        Due.is("toleranceFor(4) with the tolerance 0", 20, x.toleranceFor(4));
        RelayTuner y = Made.ofPeriods(30, 9, 33, 33, 34, 32);
        Due.is("toleranceFor(2)", 0, y.toleranceFor(2));
        Due.is("toleranceFor(3): 3.03 percent", 4, y.toleranceFor(3));
        Due.is("toleranceFor(4)", 4, y.toleranceFor(4));
        // The period needs 50 percent, the span 80.
        RelayTuner z = Made.of(50, new int[] {3, 9}, new int[] {10, 50}, new int[] {10, 50}, new int[] {15, 90});
        Due.is("toleranceFor(3) of both", 80, z.toleranceFor(3));
        RelayTuner u = Made.of(50, new int[] {9, 9}, new int[] {10, 80}, new int[] {20, 9});
        Due.is("toleranceFor(1), if a period is off by 100 percent and a span by more", NONE, u.toleranceFor(1));
    }

    private static void toleranceForAsManyAsThereAre() {
        Due.words("toleranceFor: n: number of swings, 1 to 20");
        RelayTuner x = Made.begun();
        Due.is("toleranceFor(1) without swings", NONE, x.toleranceFor(1));
        Due.is("toleranceFor(20) without swings", NONE, x.toleranceFor(20));
        for (int k = 1; k <= 21; k++) {
            Made.swing(x, 5, 20);
            int good = Math.min(20, k) - 1;
            for (int n = 1; n <= 20; n++) {
                Due.is("toleranceFor(" + n + ") with " + good + " that are the same", n <= good ? 0 : NONE,
                        x.toleranceFor(n));
            }
        }
    }

    private static void toleranceForRefuses() {
        Due.words("toleranceFor: IllegalArgumentException if n is out of range");
        for (int n : new int[] {0, 21, -1, Integer.MIN_VALUE, Integer.MAX_VALUE}) {
            Refused.argument("toleranceFor(" + n + ")", x -> x.toleranceFor(n));
        }
        Refused.nothing("toleranceFor(1)", x -> x.toleranceFor(1));
        Refused.nothing("toleranceFor(20)", x -> x.toleranceFor(20));
    }

    private static RelayTuner twenty() {
        RelayTuner x = Made.begun();
        for (int k = 1; k <= 20; k++) {
            Made.swing(x, 1 + k, k);
        }
        return x;
    }

    private static void discards() {
        Due.words("discard: Forgets a swing. Returns its period.");
        for (int j : new int[] {0, 1, 10, 18, 19}) {
            RelayTuner x = twenty();
            Due.is("discard(" + j + ")", j + 2, x.discard(j));
            Due.is("swings", 19, x.about(16));
            Due.is("undo()", 13, x.undo());
            Due.is("swings", 20, x.about(16));
            Due.is("the period of " + j, j + 2, x.swing(j, 0));
        }
        RelayTuner y = Made.ofPeriods(6, 7);
        Due.is("discard(0) of the only one", 7, y.discard(0));
        Due.is("swings", 0, y.about(16));
        Due.badIndex("discard(0) of no more", () -> y.discard(0));
        Made.swing(y, 4, 6);
        Due.is("the swing that was going on", 4, y.swing(0, 0));
    }

    private static void laterNumbersDecrease() {
        Due.words("the numbers of later ones decrease by 1");
        for (int gone = 0; gone < 20; gone++) {
            RelayTuner x = twenty();
            x.discard(gone);
            for (int j = 0; j < 19; j++) {
                int k = j < gone ? j + 1 : j + 2;
                Due.is("the period of " + j + " behind discard(" + gone + ")", 1 + k, x.swing(j, 0));
                Due.is("its high", 1 + k, x.swing(j, 1));
                Due.is("its clock", 1 + k * (k + 3) / 2, x.swing(j, 4));
            }
            Due.is("number 0 is odd", 1, x.swing(0, 3));
            Due.badIndex("swing(19, 0)", () -> x.swing(19, 0));
        }
    }

    // A tick of the relay brings half the way to 100: from -102 to -1, and from there over S = 10.
    private static void lowsOfLaterNumbers() {
        Due.words("the numbers of later ones decrease by 1");
        for (int gone = 0; gone < 5; gone++) {
            RelayTuner x = Due.loaded("G02N02L0H50A+00S010B00");
            x.mode(1);
            x.tick(1);
            for (int k = 1; k <= 5; k++) {
                Due.heat(x, -100 - 2 * k);
                x.tick(2);
            }
            Due.is("discard(" + gone + ")", 2, x.discard(gone));
            Due.is("swings", 4, x.about(16));
            for (int j = 0; j < 4; j++) {
                int k = j < gone ? j + 1 : j + 2;
                Due.is("the low of " + j + " behind discard(" + gone + ")", -k, x.swing(j, 2));
                Due.is("its high", -k + (100 + k) / 2, x.swing(j, 1));
            }
        }
    }

    private static void discardRefuses() {
        Due.words("discard: IndexOutOfBoundsException if there is no such swing");
        for (int j : new int[] {-1, 20, Integer.MIN_VALUE, Integer.MAX_VALUE}) {
            Refused.index("discard(" + j + ")", EdgeOfOddSwingsTest::twenty, x -> x.discard(j));
            Refused.index("discard(" + j + ")", x -> x.discard(j));
        }
        Refused.index("discard(0)", RelayTuner::new, x -> x.discard(0));
        Refused.index("discard(3)", () -> Made.ofPeriods(6, 3, 4, 5), x -> x.discard(3));
        Due.is("discard(2)", 5, Made.ofPeriods(6, 3, 4, 5).discard(2));
    }
}

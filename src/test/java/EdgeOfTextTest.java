/** Promises 2 to 5 and the section TEXT: a test for each sentence that names an edge. */
public final class EdgeOfTextTest {
    private static final int NONE = RelayTuner.NONE;
    private static final String HEAD = "G10N08L2H20";
    private static final String[] PARTS = {"A-35", "S217", "B11", "T46"};
    private static final int[] NUMBERS = {3, 5, 6, 7};
    private static final int[] WITHOUT = {20, 100, 3, 20};
    private static final int[] WITH = {-35, 217, 11, 46};

    public static void main(String[] args) {
        atMostSixtyCharacters();
        codes();
        codesAreLookedAtFirst();
        previousLength();
        numbersOfTheHead();
        numbersOfTheParts();
        everySignAtEveryPlace();
        endsTooSoon();
        fromLeftToRight();
        anyOrder();
        atMostOnce();
        noBlanks();
        errorPositionChangesNothing();
        withoutAnAmbient();
        asInANewObject();
        forgetsTheRemembered();
        emptiesBothSlots();
        keepsTheText();
        loadRefuses();
        Due.finish();
    }

    private static RelayTuner typed(String text) {
        RelayTuner x = new RelayTuner();
        Due.type(x, text);
        return x;
    }

    private static void position(String text, int due) {
        Due.is("errorPosition of '" + text + "'", due, typed(text).errorPosition());
    }

    private static RelayTuner filled(RelayTuner x, int length) {
        x.clearText();
        for (int k = 1; k <= length; k++) {
            x.append('G');
        }
        return x;
    }

    private static void atMostSixtyCharacters() {
        Due.words("The object has a text buffer of at most 60 characters.");
        RelayTuner x = new RelayTuner();
        for (int k = 1; k <= 60; k++) {
            Due.is("append as number " + k, k, x.append(k));
        }
        Refused.state("append as number 61", () -> filled(new RelayTuner(), 60), y -> y.append('G'));
        Refused.state("append as number 61", () -> filled(Full.inRelay(), 60), y -> y.append(0));
        Due.badState("append as number 61", () -> x.append(255));
        Due.is("clearText of the full text", 60, x.clearText());
        Due.is("append behind it", 1, x.append('G'));
        Due.is("errorPosition behind it", 1, x.errorPosition());
        Due.is("append of the sixtieth", 60, filled(x, 59).append('G'));
        // A text that is as described, and 35 signs more: the first of them is the error, the last one is taken.
        RelayTuner z = typed("G20N50L9H99A-99S999B20T99");
        for (int k = 26; k <= 60; k++) {
            Due.is("append as number " + k, k, z.append('T'));
        }
        Due.is("errorPosition of sixty", 25, z.errorPosition());
    }

    private static void codes() {
        Due.words("c: character code, 0 to 255");
        for (int c = 0; c <= 255; c++) {
            Due.is("append(" + c + ")", 1, new RelayTuner().append(c));
        }
        for (int c : new int[] {-1, 256, 256 + 'G', 65536 + 'G', Integer.MIN_VALUE, Integer.MAX_VALUE}) {
            Refused.argument("append(" + c + ")", x -> x.append(c));
        }
    }

    private static void codesAreLookedAtFirst() {
        Due.words("If several exceptions apply to a call, the one that its description names first is thrown.");
        Refused.argument("append(-1) to a full text", () -> filled(Full.inRelay(), 60), x -> x.append(-1));
        Refused.argument("append(256) to a full text", () -> filled(Full.inRelay(), 60), x -> x.append(256));
    }

    private static void previousLength() {
        Due.words("clearText: Empties the text buffer. Returns the previous length of the text.");
        for (int length : new int[] {0, 1, 2, 59, 60}) {
            RelayTuner x = filled(new RelayTuner(), length);
            Due.is("clearText of " + length, length, x.clearText());
            Due.is("clearText again", 0, x.clearText());
            Due.is("errorPosition of the empty text", 0, x.errorPosition());
            Due.is("append to the empty text", 1, x.append('N'));
            Due.is("errorPosition of N, and not of what was there", 0, x.errorPosition());
        }
        RelayTuner x = Full.inRelay();
        String before = Due.look(Full.inRelay()).replace("| 25 ", "| 0 ");
        x.clearText();
        Due.same("clearText leaves the state", before, Due.look(x));
    }

    /** All texts with a number of two digits: the least and the greatest one that are allowed, and all others. */
    private static void twoDigits(String before, String behind, int least, int most, int what) {
        for (int n = 0; n <= 99; n++) {
            String text = before + n / 10 + n % 10 + behind;
            boolean tens = n / 10 * 10 <= most && n / 10 * 10 + 9 >= least;
            if (n >= least && n <= most) {
                position(text, NONE);
                Due.is("about(" + what + ") of '" + text + "'", n, Due.loaded(text).about(what));
            } else {
                position(text, before.length() + (tens ? 1 : 0));
            }
        }
    }

    private static void numbersOfTheHead() {
        Due.words("A text is the letter G and two digits (01 to 20)");
        twoDigits("G", "N08L2H20", 1, 20, 0);
        Due.words("the letter N and two digits (01 to 50)");
        twoDigits("G10N", "L2H20", 1, 50, 1);
        Due.words("the letter L and a digit");
        for (int n = 0; n <= 9; n++) {
            Due.is("about(2)", n, Due.loaded("G10N08L" + n + "H20").about(2));
        }
        position("G10N08L10H20", 8);
        Due.words("the letter H and two digits (01 to 99)");
        twoDigits("G10N08L2H", "", 1, 99, 4);
    }

    private static void numbersOfTheParts() {
        Due.words("the letter A, a sign + or - and two digits");
        twoDigits(HEAD + "A+", "", 0, 99, 3);
        for (int n = 0; n <= 99; n++) {
            String text = HEAD + "A-" + n / 10 + n % 10;
            Due.is("about(3) of '" + text + "'", -n, Due.loaded(text).about(3));
            Due.is("about(12) of '" + text + "'", -n, Due.loaded(text).about(12));
        }
        Due.words("the letter S and three digits");
        for (int n = 0; n <= 999; n++) {
            String text = HEAD + "S" + n / 100 + n / 10 % 10 + n % 10;
            Due.is("about(5) of '" + text + "'", n, Due.loaded(text).about(5));
        }
        Due.words("the letter B and two digits (00 to 20)");
        twoDigits(HEAD + "B", "", 0, 20, 6);
        Due.words("the letter T and two digits for the tolerance");
        twoDigits(HEAD + "T", "", 0, 99, 7);
    }

    /** Appends each of the 256 characters to a text that has no error but its end. */
    private static void next(String text, String allowed, boolean ends) {
        for (char c = 0; c <= 255; c++) {
            int due = allowed.indexOf(c) < 0 ? text.length() : ends ? NONE : text.length() + 1;
            position(text + c, due);
        }
    }

    private static void everySignAtEveryPlace() {
        Due.words("The error position is the index of the first character that these rules do not allow at its place "
            + "(a digit is not allowed if no number that is allowed begins with it and those before it)");
        String digits = "0123456789";
        String[][] places = {{"", "G"}, {"G", "012"}, {"G0", "123456789"}, {"G1", digits}, {"G2", "0"},
            {"G10", "N"}, {"G10N", "012345"}, {"G10N0", "123456789"}, {"G10N1", digits}, {"G10N4", digits},
            {"G10N5", "0"}, {"G10N50", "L"}, {"G10N50L", digits}, {"G10N50L9", "H"}, {"G10N50L9H", digits}};
        for (String[] place : places) {
            next(place[0], place[1], false);
        }
        next("G10N50L9H0", "123456789", true);
        next("G10N50L9H1", digits, true);
        next("G10N50L9H9", digits, true);
        String[][] parts = {{"", "ASBT"}, {"A", "+-"}, {"A+", digits}, {"A-", digits}, {"S", digits}, {"S9", digits},
            {"B", "012"}, {"T", digits}, {"A+10", "SBT"}, {"S100", "ABT"}, {"B10", "AST"}, {"T10", "ASB"},
            {"A+10S100", "BT"}, {"T10A+10", "SB"}, {"S100A+10T10", "B"}, {"B10T10S100", "A"},
            {"A+10S100B10T10", ""}, {"T10B10S100A+10", ""}};
        for (String[] part : parts) {
            next(HEAD + part[0], part[1], false);
        }
        String[][] ends = {{"A+0", digits}, {"A-9", digits}, {"S00", digits}, {"S99", digits}, {"B0", digits},
            {"B1", digits}, {"B2", "0"}, {"T0", digits}, {"T9", digits}};
        for (String[] end : ends) {
            next(HEAD + end[0], end[1], true);
        }
    }

    private static void endsTooSoon() {
        Due.words("if the text ends too soon, it is the length of the text");
        String whole = HEAD + "A+10S100B10T10";
        for (int length = 0; length <= whole.length(); length++) {
            boolean stands = length == 11 || length == 15 || length == 19 || length == 22 || length == 25;
            position(whole.substring(0, length), stands ? NONE : length);
        }
    }

    private static void fromLeftToRight() {
        Due.words("The text is read from left to right.");
        position("G21N51L2H00", 2);
        position("G20N51L2H00", 5);
        position("G20N50L2H00", 10);
        position("N08G10L2H20", 0);
        position("G10L2N08H20", 3);
        position("G10N08H20L2", 6);
        position(HEAD + "B21A-1x", 13);
        position(HEAD + "A-1xB21", 14);
    }

    /** Puts each part that is not yet used behind the text, and looks at every text that comes of it. */
    private static void orders(String text, int used) {
        RelayTuner x = typed(text);
        Due.is("errorPosition of '" + text + "'", NONE, x.errorPosition());
        int ambient = (used & 1) == 0 ? 20 : -35;
        Due.is("load of '" + text + "'", ambient, x.load());
        for (int k = 0; k < 4; k++) {
            int due = (used & 1 << k) == 0 ? WITHOUT[k] : WITH[k];
            Due.is("about(" + NUMBERS[k] + ") of '" + text + "'", due, x.about(NUMBERS[k]));
            if ((used & 1 << k) == 0) {
                orders(text + PARTS[k], used | 1 << k);
            }
        }
    }

    private static void anyOrder() {
        Due.words("and then any of these parts, each at most once, in any order");
        orders(HEAD, 0);
    }

    private static void atMostOnce() {
        Due.words("each at most once");
        for (String part : PARTS) {
            position(HEAD + part + part, HEAD.length() + part.length());
            for (String between : PARTS) {
                if (!between.equals(part)) {
                    String text = HEAD + part + between;
                    position(text + part, text.length());
                }
            }
        }
        // The first A tells 0: this, too, is a part.
        position(HEAD + "A+00A+00", 15);
        position(HEAD + "S000S000", 15);
        position(HEAD + "B00B00", 14);
        position(HEAD + "T00T00", 14);
        position(HEAD + HEAD, 11);
    }

    private static void noBlanks() {
        Due.words("There are no blanks.");
        String whole = HEAD + "A+10S100B10T10";
        for (int k = 0; k <= whole.length(); k++) {
            position(whole.substring(0, k) + " " + whole.substring(k), k);
        }
    }

    private static void errorPositionChangesNothing() {
        Due.words("errorPosition: Checks the text.");
        Refused.nothing("errorPosition()", RelayTuner::errorPosition);
        RelayTuner x = typed(HEAD + "S1");
        Due.is("errorPosition", 13, x.errorPosition());
        Due.is("errorPosition again", 13, x.errorPosition());
        Due.is("append behind it", 14, x.append('0'));
        Due.is("errorPosition behind that", 14, x.errorPosition());
    }

    private static void withoutAnAmbient() {
        Due.words("without a part A the ambient is 20; the temperature is the ambient");
        RelayTuner x = Due.loaded(HEAD + "A-99");
        Due.is("the temperature", -99, x.about(12));
        Due.type(x, HEAD);
        Due.is("load()", 20, x.load());
        Due.is("the ambient", 20, x.about(3));
        Due.is("the temperature", 20, x.about(12));
        Due.type(x, HEAD + "A+99");
        Due.is("load()", 99, x.load());
        Due.is("at rest", 99, x.tick(200));
        // A part that is read, but belongs to a text with an error, leaves nothing behind.
        Due.type(x, HEAD + "A+55S555B05T55B");
        Due.is("errorPosition", 25, x.errorPosition());
        Due.type(x, HEAD);
        Due.is("load() behind it", 20, x.load());
        Due.is("S", 100, x.about(5));
        Due.is("B", 3, x.about(6));
        Due.is("the tolerance", 20, x.about(7));
    }

    private static void asInANewObject() {
        Due.words("load: Makes everything as in a new object, and then as the text tells");
        String plain = Due.look(Due.loaded("G10N08L2H20"));
        for (RelayTuner x : new RelayTuner[] {Full.inRelay(), Full.inControl()}) {
            Due.type(x, "G10N08L2H20");
            x.load();
            Due.same("load()", plain, Due.look(x));
            Due.badState("takeBack() behind it", x::takeBack);
            Due.is("mode(1) behind it", 0, x.mode(1));
            Due.is("17 ticks: nothing was in the pipe", 109, x.tick(17));
            Due.is("the first swing: none was going on", 1, x.about(16));
            Due.is("its period", 11, x.swing(0, 0));
            Due.is("mode(2)", 1, x.mode(2));
            Due.is("the sum", 0, x.about(15));
        }
        // The ten outputs in the pipe of the longest delay are gone.
        RelayTuner y = Due.loaded("G10N01L9H99A+05S900");
        y.mode(1);
        y.tick(30);
        y.load();
        for (int k = 1; k <= 12; k++) {
            Due.is("tick " + k + " without power", 5, y.tick(1));
        }
    }

    private static void forgetsTheRemembered() {
        Due.words("load: Forgets all remembered states");
        RelayTuner x = Full.inRelay();
        Due.type(x, HEAD);
        x.load();
        Due.badState("undo() behind load", x::undo);
        x.tick(1);
        Due.is("undo() of a tick behind it", 0, x.undo());
        Due.badState("undo() once more", x::undo);
        Due.is("the clock", 0, x.about(13));
        Due.words("load and restore are not actions.");
        x.load();
        Due.badState("undo() of a load", x::undo);
    }

    private static void emptiesBothSlots() {
        Due.words("load: empties both save slots");
        for (int slot = 0; slot <= 1; slot++) {
            int s = slot;
            Refused.state("restore(" + s + ") behind load", () -> emptied(), x -> x.restore(s));
            RelayTuner x = emptied();
            x.tick(1 + s);
            x.save(s);
            Due.badState("restore of the other slot", () -> x.restore(1 - s));
            Due.is("restore of what was saved behind load", 6 + s, x.restore(s));
        }
    }

    private static RelayTuner emptied() {
        RelayTuner x = Full.inRelay();
        Due.type(x, HEAD);
        x.load();
        x.tick(5);
        return x;
    }

    private static void keepsTheText() {
        Due.words("load: Keeps the text.");
        RelayTuner x = typed(HEAD + "A+07");
        Due.is("load()", 7, x.load());
        Due.is("load() again", 7, x.load());
        Due.is("append behind it", 16, x.append('S'));
        Due.is("errorPosition", 16, x.errorPosition());
        Due.badState("load()", x::load);
        Due.is("clearText", 16, x.clearText());
    }

    private static RelayTuner full(String text) {
        RelayTuner x = Full.inRelay();
        Due.type(x, text);
        return x;
    }

    private static void loadRefuses() {
        Due.words("load: IllegalStateException if the text is not as described above");
        String[] texts = {"", "G", "G10N08L2H2", "G00N08L2H20", "G21N08L2H20", "G10N00L2H20", "G10N51L2H20",
            "G10N08L2H00", HEAD + "A", HEAD + "A+1", HEAD + "S99", HEAD + "B21", HEAD + "T9", HEAD + " ",
            HEAD + "S100S100", HEAD + "A+10S100B10T10T"};
        for (String text : texts) {
            Due.badState("load() of '" + text + "'", typed(text)::load);
            Refused.state("load() of '" + text + "'", () -> full(text), RelayTuner::load);
        }
        for (String text : new String[] {"G01N01L0H01", "G20N50L9H99A-99S999B20T99"}) {
            Due.is("load() of '" + text + "'", text.length() > 11 ? -99 : 20, full(text).load());
        }
    }
}

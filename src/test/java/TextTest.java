/** Promises 2 to 5: append, clearText, errorPosition, load. */
public final class TextTest {
    private static final int NONE = RelayTuner.NONE;

    public static void main(String[] args) {
        append();
        clearText();
        errorPositionOfThePlant();
        errorPositionOfTheParts();
        loadPutsTheTextIn();
        loadForgets();
        loadRefuses();
        Due.finish();
    }

    private static void append() {
        RelayTuner x = new RelayTuner();
        Due.badArgument("append(-1)", () -> x.append(-1));
        Due.badArgument("append(256)", () -> x.append(256));
        Due.badArgument("append(the least int)", () -> x.append(Integer.MIN_VALUE));
        Due.badArgument("append(the greatest int)", () -> x.append(Integer.MAX_VALUE));
        Due.is("append(0)", 1, x.append(0));
        Due.is("append(255)", 2, x.append(255));
        for (int k = 3; k <= 60; k++) {
            Due.is("append as number " + k, k, x.append('G'));
        }
        Due.badState("append as number 61", () -> x.append('G'));
        Due.badArgument("append(256) to a full text", () -> x.append(256));
        Due.badArgument("append(-1) to a full text", () -> x.append(-1));
        Due.is("clearText after refused appends", 60, x.clearText());
    }

    private static void clearText() {
        RelayTuner x = new RelayTuner();
        Due.type(x, "G10N");
        Due.is("clearText", 4, x.clearText());
        Due.is("clearText again", 0, x.clearText());
        Due.is("errorPosition after it", 0, x.errorPosition());
        Due.is("append after it", 1, x.append('G'));
        Due.is("errorPosition of G", 1, x.errorPosition());
    }

    private static void position(String text, int want) {
        RelayTuner x = new RelayTuner();
        Due.type(x, text);
        String before = Due.look(x);
        Due.is("errorPosition of '" + text + "'", want, x.errorPosition());
        Due.same("errorPosition of '" + text + "'", before, Due.look(x));
        Due.is("the length of '" + text + "' after it", text.length(), x.clearText());
    }

    private static void errorPositionOfThePlant() {
        position("", 0);
        position("g", 0);
        position("N08", 0);
        position(" G", 0);
        position("G", 1);
        position("G1", 2);
        position("GG", 1);
        position("G3", 1);
        position("G00", 2);
        position("G0", 2);
        position("G21", 2);
        position("G2x", 2);
        position("G20", 3);
        position("G20 ", 3);
        position("G01L", 3);
        position("G01N", 4);
        position("G01N6", 4);
        position("G01N00", 5);
        position("G01N5", 5);
        position("G01N51", 5);
        position("G01N50", 6);
        position("G01N49L", 7);
        position("G01N01LA", 7);
        position("G01N01LH01", 7);
        position("G01NL0H01", 4);
        position("GN01L0H01", 1);
        position("G01N01L0", 8);
        position("G01N01L10", 8);
        position("G01N01L9H", 9);
        position("G01N01L9H00", 10);
        position("G01N01L9H9", 10);
        position("G01N01L9H9:", 10);
        position("G01N01L9H9/", 10);
        position("G01N01L9H99", NONE);
        position("G20N50L0H01", NONE);
        position("G19N09L0H10", NONE);
        position("G10N40L0H90 ", 11);
        position("G10N40L0H90" + (char) 0, 11);
        position("G10N40L0H90" + (char) 255, 11);
        position("G10N40L0H901", 11);
        position("G10N40L0H90G10", 11);
    }

    private static void errorPositionOfTheParts() {
        String head = "G10N08L2H20";
        position(head + "A", 12);
        position(head + "A5", 12);
        position(head + "A*", 12);
        position(head + "A+", 13);
        position(head + "A+-", 13);
        position(head + "A-9", 14);
        position(head + "A-9x", 14);
        position(head + "A-99", NONE);
        position(head + "A+99", NONE);
        position(head + "A-00", NONE);
        position(head + "A-100", 15);
        position(head + "S", 12);
        position(head + "S1", 13);
        position(head + "S12", 14);
        position(head + "S12S", 14);
        position(head + "S000", NONE);
        position(head + "S999", NONE);
        position(head + "S9999", 15);
        position(head + "B", 12);
        position(head + "B3", 12);
        position(head + "B2", 13);
        position(head + "B21", 13);
        position(head + "B20", NONE);
        position(head + "B19", NONE);
        position(head + "B00", NONE);
        position(head + "T", 12);
        position(head + "T9", 13);
        position(head + "T99", NONE);
        position(head + "T00", NONE);
        position(head + "t00", 11);
        position(head + "S100S100", 15);
        position(head + "A+10A+10", 15);
        position(head + "B10T10B10", 17);
        position(head + "T10B10T10", 17);
        position(head + "T10A+10", NONE);
        position(head + "T10S100A+10B10", NONE);
        position(head + "A+10S100B10T10", NONE);
        position(head + "A+10S100B10T10T", 25);
        position(head + "A+10S100B10T10A", 25);
        position(head + "A+10S100B10T100", 25);
        position(head + "A+10S100B10T1", 24);
    }

    private static void loadPutsTheTextIn() {
        RelayTuner x = new RelayTuner();
        Due.type(x, "G20N50L9H99T00B20S999A-99");
        Due.is("load()", -99, x.load());
        int[] numbers = {20, 50, 9, -99, 99, 999, 20, 0, 50, 0, 0, 0, -99};
        for (int what = 0; what < numbers.length; what++) {
            Due.is("about(" + what + ") after a load", numbers[what], x.about(what));
        }
        Due.is("the text is kept", 25, x.clearText());
        Due.type(x, "G01N01L0H01");
        Due.is("load() without parts", 20, x.load());
        int[] plain = {1, 1, 0, 20, 1, 100, 3, 20, 50, 0, 0, 0, 20};
        for (int what = 0; what < plain.length; what++) {
            Due.is("about(" + what + ") after a load without parts", plain[what], x.about(what));
        }
        Due.type(x, "G01N01L0H01A+07S000B00T99");
        Due.is("load() of A+07", 7, x.load());
        Due.is("S", 0, x.about(5));
        Due.is("B", 0, x.about(6));
        Due.is("the tolerance", 99, x.about(7));
        Due.is("load() once more", 7, x.load());
    }

    private static void loadForgets() {
        RelayTuner x = Due.loaded("G10N08L2H20");
        String fresh = Due.look(x);
        x.mode(1);
        x.tick(200);
        x.set(10, 7);
        x.disturb(5);
        x.tryRule(2);
        x.tick(9);
        x.save(0);
        x.save(1);
        Due.is("load() again", 20, x.load());
        Due.same("load()", fresh, Due.look(x));
        Due.badState("undo() after a load", x::undo);
        Due.badState("takeBack() after a load", x::takeBack);
        Due.badState("restore(0) after a load", () -> x.restore(0));
        Due.badState("restore(1) after a load", () -> x.restore(1));
        Due.badIndex("swing(0, 0) after a load", () -> x.swing(0, 0));
        x.tick(3);
        Due.is("undo() after a load and a tick", 0, x.undo());
    }

    private static void loadRefuses() {
        RelayTuner x = Due.loaded("G10N08L2H20");
        x.mode(1);
        x.tick(30);
        x.save(1);
        Due.type(x, "G10N08L2H20S1");
        String before = Due.look(x);
        Due.badState("load() of a text that ends too soon", x::load);
        Due.same("the refused load()", before, Due.look(x));
        x.append('0');
        x.append('0');
        x.append('0');
        Due.badState("load() of a text with a sign too many", x::load);
        Due.is("restore(1) after refused loads", 30, x.restore(1));
        Due.badState("load() of the empty text", new RelayTuner()::load);
    }
}

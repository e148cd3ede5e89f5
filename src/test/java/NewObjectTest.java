/** Promise 1: a new object. */
public final class NewObjectTest {
    public static void main(String[] args) {
        RelayTuner x = new RelayTuner();
        int[] numbers = {10, 8, 2, 20, 20, 100, 3, 20, 50, 0, 0, 0, 20, 0, 0, 0, 0, 0, 0, 0};
        for (int what = 0; what < numbers.length; what++) {
            Due.is("about(" + what + ") of a new object", numbers[what], x.about(what));
        }
        for (int what = 0; what <= 6; what++) {
            Due.is("account(" + what + ") of a new object", 0, x.account(what));
        }
        Due.is("NONE", -99999, RelayTuner.NONE);
        Due.is("errorPosition of the empty text", 0, x.errorPosition());
        Due.is("clearText of the empty text", 0, x.clearText());
        Due.is("middle(false)", RelayTuner.NONE, x.middle(false));
        Due.is("middle(true)", RelayTuner.NONE, x.middle(true));
        Due.badIndex("swing(0, 0)", () -> x.swing(0, 0));
        Due.badIndex("discard(0)", () -> x.discard(0));
        Due.badState("load()", x::load);
        Due.badState("undo()", x::undo);
        Due.badState("takeBack()", x::takeBack);
        Due.badState("tryRule(0)", () -> x.tryRule(0));
        Due.badState("restore(0)", () -> x.restore(0));
        Due.badState("restore(1)", () -> x.restore(1));

        RelayTuner other = new RelayTuner();
        x.mode(1);
        x.tick(50);
        Due.is("the clock of another object", 0, other.about(13));
        Due.finish();
    }
}

/** Promise 1. */
public final class NewObjectTest {
    public static void main(String[] args) {
        Check.due("NONE", LedgeLeaps.NONE, -1);
        LedgeLeaps x = new LedgeLeaps();
        for (int what = 0; what <= 9; what++) {
            Check.due("count(" + what + ")", x.count(what), what == 1 ? 1 : 0);
        }
        for (int column = 0; column < 20; column++) {
            for (int row = 0; row < 10; row++) {
                Check.due("cellOf(" + column + ", " + row + ", 0)", x.cellOf(column, row, 0), 0);
                Check.due("cellOf(" + column + ", " + row + ", 1)", x.cellOf(column, row, 1), row == 0 ? 1 : 0);
            }
        }
        Check.due("setting(0)", x.setting(0), 2);
        Check.due("setting(1)", x.setting(1), 3);
        Check.due("setting(2)", x.setting(2), 1);
        Check.due("firstError()", x.firstError(), 0);
        Check.due("clearBuffer()", x.clearBuffer(), 0);
        Check.dueThrow(x, "goBack(0)", IllegalStateException.class, () -> x.goBack(0));
        Check.dueThrow(x, "goBack(1)", IllegalStateException.class, () -> x.goBack(1));
        Check.dueThrow(x, "undo()", IllegalStateException.class, () -> x.undo());
        LedgeLeaps other = new LedgeLeaps();
        x.build(3, 3);
        x.set(0, 4);
        Check.counts(other, "of another object", 0, 0, 9, 0);
        Check.due("setting(0) of another object", other.setting(0), 2);
        Check.end();
    }
}

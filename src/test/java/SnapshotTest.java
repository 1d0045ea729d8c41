/** Promises 11 to 13. */
public final class SnapshotTest {
    public static void main(String[] args) {
        keepsAndGoesBack();
        takesInPlaceOf();
        savesSixStates();
        savesEachUndoableCall();
        wrongInputs();
        Check.end();
    }

    private static void keepsAndGoesBack() {
        LedgeLeaps x = new LedgeLeaps();
        Check.builds(x, 3, 3, 4, 3);
        x.put(3, 4);
        x.set(1, 5);
        x.walk(-1);
        x.leap(-1, 0);
        Check.due("keep(1)", x.keep(1), 2);
        Check.counts(x, "behind keep, which is not undoable", 9, 6, 0, 2);
        long kept = x.digest();
        Check.type(x, "w+");
        x.build(9, 9);
        x.set(0, 4);
        x.set(1, 1);
        x.set(2, 4);
        x.walk(-1);
        x.walk(1);
        x.leap(1, 0);
        Check.due("goBack(1)", x.goBack(1), 2);
        Check.counts(x, "behind goBack", 0, 2, 2, 0, 3, 0, 5, 1, 6, 1, 7, 1, 9, 6);
        Check.due("setting(0)", x.setting(0), 2);
        Check.due("setting(1)", x.setting(1), 5);
        Check.due("setting(2)", x.setting(2), 1);
        Check.due("clearBuffer() behind goBack", x.clearBuffer(), 2);
        Check.due("digest() behind goBack", x.digest(), kept);
        Check.due("undo() of goBack", x.undo(), 5);
        Check.counts(x, "behind undo of goBack", 0, 3, 5, 2);
        Check.due("setting(0)", x.setting(0), 4);
        Check.due("goBack(1) again", x.goBack(1), 2);
        Check.due("digest() behind goBack again", x.digest(), kept);
        Check.dueThrow(x, "goBack(0)", IllegalStateException.class, () -> x.goBack(0));
    }

    private static void takesInPlaceOf() {
        LedgeLeaps x = new LedgeLeaps();
        Check.due("keep(0)", x.keep(0), 0);
        x.build(5, 5);
        Check.due("keep(1)", x.keep(1), 1);
        x.build(6, 5);
        Check.due("keep(0)", x.keep(0), 2);
        x.build(7, 5);
        Check.due("goBack(0)", x.goBack(0), 2);
        Check.due("goBack(1)", x.goBack(1), 1);
        x.undo();
        x.undo();
        Check.counts(x, "behind undo twice", 0, 3);
        Check.due("goBack(0) behind undo", x.goBack(0), 2);
    }

    private static void savesSixStates() {
        LedgeLeaps x = new LedgeLeaps();
        for (int i = 1; i <= 9; i++) {
            x.build(i, 9);
            Check.counts(x, "behind builds", 9, Math.min(i, 6));
        }
        for (int i = 1; i <= 6; i++) {
            Check.due("undo()", x.undo(), 6 - i);
            Check.counts(x, "behind undo", 0, 9 - i, 9, 6 - i);
        }
        Check.dueThrow(x, "undo()", IllegalStateException.class, () -> x.undo());
        Check.counts(x, "behind undo of all", 0, 3);
    }

    private static void savesEachUndoableCall() {
        LedgeLeaps x = new LedgeLeaps();
        x.keep(0);
        x.build(0, 0);
        Check.counts(x, "behind a refused build", 9, 1);
        x.set(0, 2);
        Check.counts(x, "behind a set that changes nothing", 9, 2);
        x.walk(-1);
        Check.counts(x, "behind a refused walk", 9, 3);
        x.leap(1, 3);
        Check.counts(x, "behind a refused leap", 9, 4);
        x.put(0, 5);
        Check.counts(x, "behind a refused put", 9, 5, 7, 4);
        x.undo();
        Check.type(x, "w-");
        x.run();
        Check.counts(x, "behind a refused run", 9, 5, 7, 4);
        x.goBack(0);
        Check.counts(x, "behind goBack", 9, 6, 7, 0);
        x.append('w');
        x.firstError();
        x.clearBuffer();
        x.keep(1);
        Check.counts(x, "behind what is not undoable", 9, 6);
        for (int i = 0; i < 6; i++) {
            int left = 5 - i;
            Check.due("undo()", x.undo(), left);
            Check.counts(x, "with " + left + " left", 7, left == 5 ? 4 : left == 4 ? 3 : left == 3 ? 2 : left == 0 ? 0 : 1);
        }
    }

    private static void wrongInputs() {
        LedgeLeaps x = new LedgeLeaps();
        for (int slot : new int[] {-1, 2, Integer.MIN_VALUE, Integer.MAX_VALUE}) {
            Check.dueThrow(x, "keep(" + slot + ")", IllegalArgumentException.class, () -> x.keep(slot));
            Check.dueThrow(x, "goBack(" + slot + ")", IllegalArgumentException.class, () -> x.goBack(slot));
        }
        x.keep(0);
        Check.dueThrow(x, "goBack(1)", IllegalStateException.class, () -> x.goBack(1));
        Check.dueThrow(x, "undo()", IllegalStateException.class, () -> x.undo());
    }
}

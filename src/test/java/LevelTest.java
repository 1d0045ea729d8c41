/** Promises 2, 3, 14 and 17. */
public final class LevelTest {
    public static void main(String[] args) {
        builds();
        falls();
        refusedBuilds();
        settings();
        cells();
        greatestRunUps();
        wrongInputs();
        Check.end();
    }

    private static void builds() {
        LedgeLeaps x = new LedgeLeaps();
        Check.due("build(0, 9)", x.build(0, 9), 1);
        Check.due("build(19, 0)", x.build(19, 0), 1);
        Check.due("build(19, 9)", x.build(19, 9), 1);
        Check.counts(x, "behind three builds", 0, 3, 9, 3, 7, 0);
        Check.due("build(19, 0) again", x.build(19, 0), 0);
        Check.counts(x, "behind a break", 0, 2, 9, 4, 7, 0);
        Check.due("cellOf(19, 0, 0)", x.cellOf(19, 0, 0), 0);
        Check.due("cellOf(19, 9, 0)", x.cellOf(19, 9, 0), 1);
        Check.due("cellOf(18, 9, 0)", x.cellOf(18, 9, 0), 0);
    }

    private static void falls() {
        LedgeLeaps x = new LedgeLeaps();
        Check.builds(x, 4, 6, 4, 2);
        Check.due("put(4, 7)", x.put(4, 7), x.cellOf(4, 7, 2));
        Check.due("build(4, 6)", x.build(4, 6), 0);
        Check.counts(x, "behind a fall to a block", 2, 4, 3, 3, 7, 0);
        Check.due("build(4, 2)", x.build(4, 2), 0);
        Check.counts(x, "behind a fall to the ground", 2, 4, 3, 0, 4, 0);
        Check.due("undo()", x.undo(), 4);
        Check.counts(x, "behind an undone fall", 2, 4, 3, 3, 0, 1);
        Check.due("build(3, 2)", x.build(3, 2), 1);
        Check.due("build(3, 2)", x.build(3, 2), 0);
        Check.counts(x, "behind a break beside what is stood on", 2, 4, 3, 3);
    }

    private static void refusedBuilds() {
        LedgeLeaps x = new LedgeLeaps();
        Check.due("build(0, 0)", x.build(0, 0), -1);
        Check.counts(x, "behind a refused build", 0, 0, 7, 1, 9, 1);
        Check.due("build(0, 1)", x.build(0, 1), 1);
        Check.counts(x, "behind a build above the runner", 0, 1, 2, 0, 3, 0, 7, 1);
        x.undo();
        Check.due("undo() of what was refused", x.undo(), 0);
        Check.counts(x, "behind undo", 7, 0);
    }

    private static void settings() {
        LedgeLeaps x = new LedgeLeaps();
        int[] greatest = {4, 5, 5};
        int[] first = {2, 3, 1};
        for (int setting = 0; setting < 3; setting++) {
            int previous = first[setting];
            for (int value = 1; value <= greatest[setting]; value++) {
                Check.due("set(" + setting + ", " + value + ")", x.set(setting, value), previous);
                Check.due("setting(" + setting + ")", x.setting(setting), value);
                previous = value;
            }
        }
        Check.counts(x, "behind fourteen set", 9, 6, 7, 0);
        Check.due("undo()", x.undo(), 5);
        Check.due("setting(2) behind undo", x.setting(2), 4);
        Check.due("setting(1) behind undo", x.setting(1), 5);
    }

    private static void cells() {
        LedgeLeaps x = new LedgeLeaps();
        Check.builds(x, 2, 0, 5, 9, 6, 8, 0, 4, 19, 4);
        Check.due("cellOf(2, 0, 0)", x.cellOf(2, 0, 0), 1);
        Check.due("cellOf(2, 0, 1)", x.cellOf(2, 0, 1), 0);
        Check.due("cellOf(2, 0, 2)", x.cellOf(2, 0, 2), -1);
        Check.due("cellOf(2, 0, 3)", x.cellOf(2, 0, 3), -1);
        Check.due("cellOf(2, 0, 4)", x.cellOf(2, 0, 4), -1);
        Check.due("cellOf(2, 1, 1)", x.cellOf(2, 1, 1), 1);
        Check.due("cellOf(6, 9, 1)", x.cellOf(6, 9, 1), 1);
        Check.due("cellOf(5, 8, 1)", x.cellOf(5, 8, 1), 0);
        // the ledges by rows from below, then by columns
        Check.due("cellOf(0, 0, 2)", x.cellOf(0, 0, 2), 0);
        Check.due("cellOf(1, 0, 2)", x.cellOf(1, 0, 2), 0);
        Check.due("cellOf(3, 0, 2)", x.cellOf(3, 0, 2), 1);
        Check.due("cellOf(19, 0, 2)", x.cellOf(19, 0, 2), 1);
        Check.due("cellOf(2, 1, 2)", x.cellOf(2, 1, 2), 2);
        Check.due("cellOf(0, 5, 2)", x.cellOf(0, 5, 2), 3);
        Check.due("cellOf(19, 5, 2)", x.cellOf(19, 5, 2), 4);
        Check.due("cellOf(6, 9, 2)", x.cellOf(6, 9, 2), 5);
        Check.counts(x, "of such a level", 1, 6);
    }

    private static void greatestRunUps() {
        LedgeLeaps x = new LedgeLeaps();
        for (int column = 0; column < 20; column++) {
            Check.due("cellOf(" + column + ", 0, 3)", x.cellOf(column, 0, 3), Math.min(3, column));
            Check.due("cellOf(" + column + ", 0, 4)", x.cellOf(column, 0, 4), Math.min(3, 19 - column));
        }
        Check.builds(x, 8, 0, 12, 0);
        int[] right = {0, 1, 2};
        for (int i = 0; i < 3; i++) {
            Check.due("cellOf(" + (9 + i) + ", 0, 3)", x.cellOf(9 + i, 0, 3), right[i]);
            Check.due("cellOf(" + (9 + i) + ", 0, 4)", x.cellOf(9 + i, 0, 4), 2 - right[i]);
        }
        Check.due("cellOf(8, 1, 3)", x.cellOf(8, 1, 3), 0);
        Check.due("cellOf(8, 2, 3)", x.cellOf(8, 2, 3), -1);
    }

    private static void wrongInputs() {
        LedgeLeaps x = new LedgeLeaps();
        x.build(7, 3);
        Class<?> index = IndexOutOfBoundsException.class;
        Class<?> argument = IllegalArgumentException.class;
        int[] wrong = {-1, 20, Integer.MIN_VALUE, Integer.MAX_VALUE};
        for (int column : wrong) {
            Check.dueThrow(x, "build(" + column + ", 0)", index, () -> x.build(column, 0));
            Check.dueThrow(x, "cellOf(" + column + ", 0, 9)", index, () -> x.cellOf(column, 0, 9));
        }
        int[] wrongRows = {-1, 10, Integer.MIN_VALUE, Integer.MAX_VALUE};
        for (int row : wrongRows) {
            Check.dueThrow(x, "build(0, " + row + ")", index, () -> x.build(0, row));
            Check.dueThrow(x, "cellOf(0, " + row + ", 0)", index, () -> x.cellOf(0, row, 0));
        }
        for (int setting : new int[] {-1, 3, Integer.MIN_VALUE, Integer.MAX_VALUE}) {
            Check.dueThrow(x, "set(" + setting + ", 0)", index, () -> x.set(setting, 0));
            Check.dueThrow(x, "set(" + setting + ", 1)", index, () -> x.set(setting, 1));
            Check.dueThrow(x, "setting(" + setting + ")", index, () -> x.setting(setting));
        }
        int[] tooMuch = {5, 6, 6};
        for (int i = 0; i < 3; i++) {
            int setting = i;
            for (int value : new int[] {0, -1, tooMuch[i], Integer.MIN_VALUE, Integer.MAX_VALUE}) {
                Check.dueThrow(x, "set(" + i + ", " + value + ")", argument, () -> x.set(setting, value));
            }
        }
        for (int what : new int[] {-1, 5, Integer.MIN_VALUE, Integer.MAX_VALUE}) {
            Check.dueThrow(x, "cellOf(0, 0, " + what + ")", argument, () -> x.cellOf(0, 0, what));
        }
    }
}

/** Promises 7 to 10. */
public final class TextTest {
    public static void main(String[] args) {
        appends();
        firstErrors();
        runs();
        refusedRuns();
        runsThatThrow();
        Check.end();
    }

    private static void appends() {
        LedgeLeaps x = new LedgeLeaps();
        for (int code : new int[] {32, 127, 0, -1, 256, Integer.MIN_VALUE, Integer.MAX_VALUE}) {
            Check.dueThrow(x, "append(" + code + ")", IllegalArgumentException.class, () -> x.append(code));
        }
        for (int length = 1; length <= 60; length++) {
            Check.due("append()", x.append(length % 2 == 0 ? 33 : 126), length);
        }
        Check.dueThrow(x, "append(33) to a full buffer", IllegalStateException.class, () -> x.append(33));
        Check.dueThrow(x, "append(32) to a full buffer", IllegalArgumentException.class, () -> x.append(32));
        Check.due("clearBuffer()", x.clearBuffer(), 60);
        Check.due("clearBuffer()", x.clearBuffer(), 0);
        Check.due("append('w')", x.append('w'), 1);
        Check.counts(x, "behind appends, which are not undoable", 9, 0, 7, 0);
    }

    private static void firstErrors() {
        String[] begun = {"", "b", "b1", "b19", "b7,", "b10,9", "b0,0;", "w", "w-", "w+;", "l", "l+", "l-3",
            "l+0;w-;b1,2;b12,0", "w+;w+;w+;w+;w+;w+;w+;w+;w+;w+;w+;w+;w+;w+;w+;w+;w+;w+;w+;w+;"};
        for (String text : begun) {
            dueError(text, text.length());
        }
        dueError("x", 0);
        dueError(";", 0);
        dueError("B", 0);
        dueError("b,", 1);
        dueError("b-", 1);
        dueError("b01", 2);
        dueError("b20", 2);
        dueError("b99", 2);
        dueError("b190", 3);
        dueError("b1;", 2);
        dueError("b1,;", 3);
        dueError("b1,10", 4);
        dueError("b1,1,", 4);
        dueError("w1", 1);
        dueError("w+1", 2);
        dueError("w+-", 2);
        dueError("l0", 1);
        dueError("l+4", 2);
        dueError("l+-", 2);
        dueError("l+00", 3);
        dueError("l-:", 2);
        dueError("w+;;", 3);
        dueError("w+;x;w", 3);
        dueError("w+w", 2);
    }

    private static void dueError(String text, int place) {
        LedgeLeaps x = new LedgeLeaps();
        Check.type(x, text);
        Check.due("firstError() of " + text, x.firstError(), place);
        Check.due("firstError() of " + text + " again", x.firstError(), place);
        Check.due("clearBuffer() of " + text, x.clearBuffer(), text.length());
        Check.due("firstError() behind clearBuffer()", x.firstError(), 0);
    }

    private static void runs() {
        LedgeLeaps x = new LedgeLeaps();
        Check.type(x, "b9,1;b10,1;w+;w+;w+;w+;w+;l+0;w-;b9,1");
        Check.due("run()", x.run(), 10);
        // the runner walks to 5, leaps to (10,2), walks to (9,2), and falls as (9,1) is broken
        Check.counts(x, "behind run", 0, 1, 2, 9, 3, 0, 5, 1, 6, 0, 7, 0, 9, 1);
        Check.due("clearBuffer() behind run", x.clearBuffer(), 0);
        Check.due("undo()", x.undo(), 0);
        Check.counts(x, "behind undo of run", 0, 0, 2, 0, 3, 0, 5, 0);
        Check.due("firstError() behind undo of run", x.firstError(), 0);
        Check.type(x, "b19,9;b19,9;l-3");
        Check.due("run()", x.run(), 3);
        Check.counts(x, "behind run with a wall", 0, 0, 5, 1, 6, 1, 9, 1);
        Check.type(x, "w+;w+;w+;w+;w+;w+;w+;w+;w+;w+;w+;w+;w+;w+;w+;w+;w+;w+;w+;l+3");
        Check.due("run() of 60 characters", x.run(), 20);
        Check.counts(x, "behind it", 2, 19, 5, 2, 6, 2, 7, 0, 9, 2);
    }

    private static void refusedRuns() {
        LedgeLeaps x = new LedgeLeaps();
        Check.type(x, "w+;w-;w-;w+;b5,5");
        Check.due("run() up to a refused walk", x.run(), 2);
        Check.counts(x, "behind it", 0, 0, 2, 0, 7, 1, 9, 1);
        Check.type(x, "b5,5;b0,0;b6,6");
        Check.due("run() up to a refused build", x.run(), 1);
        Check.counts(x, "behind it", 0, 1, 7, 2, 9, 2);
        Check.type(x, "l+1;b6,6");
        Check.due("run() of a refused leap", x.run(), 0);
        Check.counts(x, "behind it", 0, 1, 5, 0, 7, 3, 9, 3);
        Check.due("clearBuffer()", x.clearBuffer(), 0);
        Check.due("undo()", x.undo(), 2);
        Check.counts(x, "behind undo of a refused run", 0, 1, 7, 2);
    }

    private static void runsThatThrow() {
        for (String text : new String[] {"", "b", "b1", "b1,", "w", "l", "l-", "w+;", "w+;b1", "x", "w+;l+4", "b1,1;;"}) {
            LedgeLeaps x = new LedgeLeaps();
            Check.type(x, text);
            Check.dueThrow(x, "run() of " + text, IllegalArgumentException.class, () -> x.run());
            Check.counts(x, "behind run, which throws", 9, 0, 7, 0, 0, 0);
            Check.due("clearBuffer()", x.clearBuffer(), text.length());
        }
    }
}

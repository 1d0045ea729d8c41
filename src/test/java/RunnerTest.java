/** Promises 4, 5 and 6. */
public final class RunnerTest {
    public static void main(String[] args) {
        walks();
        leaps();
        leapsToAWall();
        puts();
        wrongInputs();
        Check.end();
    }

    private static void walks() {
        LedgeLeaps x = new LedgeLeaps();
        Check.due("walk(-1) beyond the level", x.walk(-1), -1);
        Check.counts(x, "behind a refused walk", 2, 0, 7, 1, 9, 1);
        Check.due("walk(1)", x.walk(1), 1);
        Check.due("walk(1)", x.walk(1), 2);
        Check.due("walk(-1)", x.walk(-1), 1);
        Check.counts(x, "behind walks", 2, 1, 3, 0, 5, 0, 7, 1, 9, 4);
        Check.builds(x, 2, 0);
        Check.due("walk(1) into a block", x.walk(1), -1);
        Check.due("put(2, 1)", x.put(2, 1), 2);
        Check.due("walk(1) off a ledge", x.walk(1), -1);
        Check.counts(x, "behind a refused walk off a ledge", 2, 2, 3, 1, 7, 3);
        Check.due("put(19, 0)", x.put(19, 0), 1);
        Check.due("walk(1) beyond the level", x.walk(1), -1);
        x.undo();
        Check.counts(x, "behind undo of a refused walk", 2, 19, 7, 3);
    }

    private static void leaps() {
        LedgeLeaps x = new LedgeLeaps();
        Check.builds(x, 9, 1, 10, 1);
        x.put(5, 0);
        Check.due("leap(1, 0) to a ledge", x.leap(1, 0), 210);
        Check.counts(x, "behind a leap", 2, 10, 3, 2, 4, 1, 5, 1, 6, 0, 7, 0, 9, 4);
        Check.due("leap(-1, 1) without cells for it", x.leap(-1, 1), -1);
        Check.due("leap(1, 2) without cells for it", x.leap(1, 2), -1);
        Check.counts(x, "behind refused leaps", 2, 10, 3, 2, 5, 1, 6, 0, 7, 2, 9, 6);
        // (12,4) (14,5) (16,5) (18,4), then at the wall: (19,3) (19,2) (19,1) (19,0)
        Check.due("leap(1, 1)", x.leap(1, 1), 19);
        Check.counts(x, "behind a leap to the edge", 5, 2, 6, 1, 7, 2);
        Check.due("undo()", x.undo(), 5);
        Check.counts(x, "behind undo of a leap", 2, 10, 3, 2, 5, 1, 6, 0, 7, 2);
    }

    private static void leapsToAWall() {
        LedgeLeaps x = new LedgeLeaps();
        Check.due("leap(-1, 0)", x.leap(-1, 0), 0);
        Check.counts(x, "behind a leap at the edge", 5, 1, 6, 1, 7, 0, 2, 0, 3, 0);
        Check.due("leap(-1, 3)", x.leap(-1, 3), 0);
        Check.counts(x, "behind another", 5, 2, 6, 2);
        Check.due("leap(1, 0)", x.leap(1, 0), 6);
        Check.counts(x, "behind one without a wall", 5, 3, 6, 2);
        Check.due("leap(1, 3)", x.leap(1, 3), 19);
        Check.counts(x, "behind one with a wall", 5, 4, 6, 3);
    }

    private static void puts() {
        LedgeLeaps x = new LedgeLeaps();
        Check.builds(x, 4, 3, 15, 3, 16, 3, 19, 9);
        Check.due("put(16, 4)", x.put(16, 4), 2);
        Check.counts(x, "behind put", 2, 16, 3, 4, 4, 2, 7, 0, 9, 5);
        Check.due("put(16, 3) into a block", x.put(16, 3), -1);
        Check.due("put(16, 5) into the air", x.put(16, 5), -1);
        Check.due("put(19, 9) into a block below the top", x.put(19, 9), -1);
        Check.counts(x, "behind refused put", 2, 16, 3, 4, 7, 3, 9, 6);
        Check.due("put(4, 4)", x.put(4, 4), 1);
        Check.due("put(19, 0)", x.put(19, 0), 0);
        Check.due("undo()", x.undo(), 5);
        Check.counts(x, "behind undo of put", 2, 4, 3, 4);
    }

    private static void wrongInputs() {
        LedgeLeaps x = new LedgeLeaps();
        Class<?> index = IndexOutOfBoundsException.class;
        Class<?> argument = IllegalArgumentException.class;
        for (int side : new int[] {0, 2, -2, Integer.MIN_VALUE, Integer.MAX_VALUE}) {
            Check.dueThrow(x, "walk(" + side + ")", argument, () -> x.walk(side));
            Check.dueThrow(x, "leap(" + side + ", 0)", argument, () -> x.leap(side, 0));
        }
        for (int runUp : new int[] {-1, 4, Integer.MIN_VALUE, Integer.MAX_VALUE}) {
            Check.dueThrow(x, "leap(1, " + runUp + ")", argument, () -> x.leap(1, runUp));
            Check.dueThrow(x, "leap(-1, " + runUp + ")", argument, () -> x.leap(-1, runUp));
        }
        for (int column : new int[] {-1, 20, Integer.MIN_VALUE, Integer.MAX_VALUE}) {
            Check.dueThrow(x, "put(" + column + ", 0)", index, () -> x.put(column, 0));
        }
        for (int row : new int[] {-1, 10, Integer.MIN_VALUE, Integer.MAX_VALUE}) {
            Check.dueThrow(x, "put(0, " + row + ")", index, () -> x.put(0, row));
        }
    }
}

/** Promises 15 and 16. */
public final class LooksTest {
    public static void main(String[] args) {
        ledges();
        counts();
        mostLedges();
        wrongInputs();
        Check.end();
    }

    /** Two high ledges with a gap that only a running leap crosses, above the ground. */
    static LedgeLeaps twoHighLedges() {
        LedgeLeaps x = new LedgeLeaps();
        Check.builds(x, 0, 4, 1, 4, 2, 4, 3, 4, 4, 4, 14, 4, 15, 4, 16, 4, 17, 4, 18, 4, 19, 4);
        return x;
    }

    private static void ledges() {
        LedgeLeaps x = twoHighLedges();
        int[][] due = {{0, 0, 20, 0, 0, 2}, {5, 0, 5, 2, 1, 1}, {5, 14, 6, 2, 1, 1}};
        for (int ledge = 0; ledge < 3; ledge++) {
            for (int what = 0; what < 6; what++) {
                Check.due("ledgeOf(" + ledge + ", " + what + ")", x.ledgeOf(ledge, what), due[ledge][what]);
            }
        }
        // a rise of 4 comes 10 rows high, to the ledges from the ground too
        x.set(0, 4);
        Check.due("ledgeOf(0, 3)", x.ledgeOf(0, 3), 2);
        Check.due("ledgeOf(0, 4)", x.ledgeOf(0, 4), 2);
        x.undo();
        Check.due("ledgeOf(0, 3) behind undo", x.ledgeOf(0, 3), 0);
        x.build(2, 4);
        Check.due("ledgeOf(1, 2) behind a break", x.ledgeOf(1, 2), 2);
        Check.due("ledgeOf(2, 1) behind a break", x.ledgeOf(2, 1), 3);
        Check.due("ledgeOf(3, 1) behind a break", x.ledgeOf(3, 1), 14);
        Check.due("ledgeOf(3, 2) behind a break", x.ledgeOf(3, 2), 6);
    }

    private static void counts() {
        LedgeLeaps x = twoHighLedges();
        Check.counts(x, "with the runner on the ground", 0, 11, 1, 3, 2, 0, 3, 0, 4, 0, 5, 0, 6, 0, 7, 0, 8, 2, 9, 6);
        x.put(15, 5);
        Check.counts(x, "with the runner on a ledge", 2, 15, 3, 5, 4, 2, 8, 0);
        x.put(15, 6);
        x.leap(1, 0);
        x.leap(-1, 0);
        Check.counts(x, "behind leaps", 5, 2, 6, 1, 7, 1);
    }

    private static void mostLedges() {
        LedgeLeaps x = new LedgeLeaps();
        for (int row = 0; row < 10; row++) {
            for (int column = 0; column < 20; column++) {
                if ((row + column) % 2 == 1) {
                    x.build(column, row);
                }
            }
        }
        Check.counts(x, "of a level like a chessboard", 0, 100, 1, 100, 4, 0);
        Check.due("ledgeOf(99, 0)", x.ledgeOf(99, 0), 9);
        Check.due("ledgeOf(99, 1)", x.ledgeOf(99, 1), 19);
        Check.due("ledgeOf(99, 2)", x.ledgeOf(99, 2), 1);
        Check.dueThrow(x, "ledgeOf(100, 0)", IndexOutOfBoundsException.class, () -> x.ledgeOf(100, 0));
        // heads meet blocks at once, and the wall is next to each cell: no leap leaves its ledge
        Check.counts(x, "of such a level", 8, 99);
    }

    private static void wrongInputs() {
        LedgeLeaps x = twoHighLedges();
        for (int ledge : new int[] {-1, 3, Integer.MIN_VALUE, Integer.MAX_VALUE}) {
            Check.dueThrow(x, "ledgeOf(" + ledge + ", 0)", IndexOutOfBoundsException.class, () -> x.ledgeOf(ledge, 0));
            Check.dueThrow(x, "ledgeOf(" + ledge + ", 6)", IndexOutOfBoundsException.class, () -> x.ledgeOf(ledge, 6));
        }
        for (int what : new int[] {-1, 6, Integer.MIN_VALUE, Integer.MAX_VALUE}) {
            Check.dueThrow(x, "ledgeOf(2, " + what + ")", IllegalArgumentException.class, () -> x.ledgeOf(2, what));
        }
        for (int what : new int[] {-1, 10, Integer.MIN_VALUE, Integer.MAX_VALUE}) {
            Check.dueThrow(x, "count(" + what + ")", IllegalArgumentException.class, () -> x.count(what));
        }
    }
}

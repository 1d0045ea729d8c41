/** Promises 20 to 23. */
public final class ReachTest {
    public static void main(String[] args) {
        aloneOnTheGround();
        slowestRunUps();
        fewestLeaps();
        chainOfLedges();
        onlyRunningAndShare();
        wrongInputs();
        Check.end();
    }

    private static void dueFewest(LedgeLeaps x, int from, int to, int runUp, int want) {
        for (int what = 0; what <= 1; what++) {
            String call = "fewest(" + from + ", " + to + ", " + runUp + ", " + what + ")";
            Check.due(call, x.fewest(from, to, runUp, what), want);
        }
    }

    private static void aloneOnTheGround() {
        LedgeLeaps x = new LedgeLeaps();
        Check.due("slowest(0, 0)", x.slowest(0, 0), 0);
        dueFewest(x, 0, 0, 0, 0);
        Check.due("onlyRunning(0)", x.onlyRunning(0), -1);
        Check.dueShare("reachShare()", x.reachShare(), 1.0);
        // a cell by itself below a block: there is no leap from it to itself, as none is flat
        Check.builds(x, 3, 1, 3, 3);
        Check.due("cellOf(3, 2, 2)", x.cellOf(3, 2, 2), 1);
        Check.due("slowest(1, 1)", x.slowest(1, 1), -1);
        dueFewest(x, 1, 1, 3, 0);
    }

    private static void slowestRunUps() {
        LedgeLeaps x = LooksTest.twoHighLedges();
        int[][] due = {{0, -1, -1}, {0, 0, 1}, {0, 1, 0}};
        for (int from = 0; from < 3; from++) {
            for (int to = 0; to < 3; to++) {
                Check.due("slowest(" + from + ", " + to + ")", x.slowest(from, to), due[from][to]);
            }
        }
    }

    private static void fewestLeaps() {
        LedgeLeaps x = LooksTest.twoHighLedges();
        for (int runUp = 0; runUp <= 3; runUp++) {
            int across = runUp == 0 ? -1 : 1;
            dueFewest(x, 1, 2, runUp, across);
            dueFewest(x, 2, 1, runUp, across);
            dueFewest(x, 1, 0, runUp, 1);
            dueFewest(x, 0, 1, runUp, -1);
            dueFewest(x, 2, 2, runUp, 0);
        }
        x.build(14, 4);
        // the edge moves by one, and with the run-up 1 it ends at (16,5) as before
        dueFewest(x, 1, 2, 1, 1);
        x.build(15, 4);
        x.build(16, 4);
        x.build(17, 4);
        dueFewest(x, 1, 2, 1, -1);
        x.undo();
        x.undo();
        x.undo();
        dueFewest(x, 1, 2, 1, 1);
    }

    /** Steps of three rows each, which only a leap from the one below comes to. */
    private static void chainOfLedges() {
        LedgeLeaps x = new LedgeLeaps();
        Check.builds(x, 4, 2, 5, 2, 9, 5, 10, 5, 14, 8, 15, 8);
        // the ledges: the ground, (4..5,3), (9..10,6), (14..15,9)
        Check.counts(x, "of a chain", 1, 4);
        dueFewest(x, 0, 1, 3, 1);
        dueFewest(x, 0, 2, 3, 2);
        dueFewest(x, 0, 3, 3, 3);
        dueFewest(x, 3, 0, 3, 1);
        Check.due("slowest(0, 3)", x.slowest(0, 3), -1);
        Check.due("slowest(0, 2)", x.slowest(0, 2), -1);
    }

    private static void onlyRunningAndShare() {
        LedgeLeaps x = LooksTest.twoHighLedges();
        Check.due("onlyRunning(0) on the ground", x.onlyRunning(0), -1);
        Check.dueShare("reachShare() on the ground", x.reachShare(), 1.0 / 3);
        x.put(3, 5);
        Check.due("onlyRunning(0)", x.onlyRunning(0), 2);
        Check.due("onlyRunning(1)", x.onlyRunning(1), -1);
        Check.due("onlyRunning(2147483647)", x.onlyRunning(Integer.MAX_VALUE), -1);
        Check.dueShare("reachShare()", x.reachShare(), 1.0);
        x.put(19, 5);
        Check.due("onlyRunning(0) from the other ledge", x.onlyRunning(0), 1);
        x.build(9, 9);
        x.build(9, 8);
        Check.dueShare("reachShare() with a block at the top", x.reachShare(), 1.0);
        x.build(9, 9);
        // now one can stand in (9,9)
        Check.counts(x, "with a ledge at the top", 1, 4, 8, 1);
        Check.dueShare("reachShare() with a ledge at the top", x.reachShare(), 3.0 / 4);
    }

    private static void wrongInputs() {
        LedgeLeaps x = LooksTest.twoHighLedges();
        Class<?> index = IndexOutOfBoundsException.class;
        Class<?> argument = IllegalArgumentException.class;
        for (int ledge : new int[] {-1, 3, Integer.MIN_VALUE, Integer.MAX_VALUE}) {
            Check.dueThrow(x, "slowest(" + ledge + ", 0)", index, () -> x.slowest(ledge, 0));
            Check.dueThrow(x, "slowest(0, " + ledge + ")", index, () -> x.slowest(0, ledge));
            Check.dueThrow(x, "fewest(" + ledge + ", 0, 0, 0)", index, () -> x.fewest(ledge, 0, 0, 0));
            Check.dueThrow(x, "fewest(0, " + ledge + ", 4, 2)", index, () -> x.fewest(0, ledge, 4, 2));
        }
        for (int runUp : new int[] {-1, 4, Integer.MIN_VALUE, Integer.MAX_VALUE}) {
            Check.dueThrow(x, "fewest(0, 2, " + runUp + ", 0)", argument, () -> x.fewest(0, 2, runUp, 0));
        }
        for (int what : new int[] {-1, 2, Integer.MIN_VALUE, Integer.MAX_VALUE}) {
            Check.dueThrow(x, "fewest(0, 2, 0, " + what + ")", argument, () -> x.fewest(0, 2, 0, what));
        }
        Check.dueThrow(x, "onlyRunning(-1)", argument, () -> x.onlyRunning(-1));
        Check.dueThrow(x, "onlyRunning(least)", argument, () -> x.onlyRunning(Integer.MIN_VALUE));
    }
}

/** Levels that tests begin with; the runner stands in the column 0 of the row 0 in each. */
final class Levels {
    private Levels() {
    }

    /** Columns and rows of the blocks, one after the other. */
    static LedgeLeaps with(int... columnsAndRows) {
        LedgeLeaps x = new LedgeLeaps();
        build(x, columnsAndRows);
        return x;
    }

    static void build(LedgeLeaps x, int... columnsAndRows) {
        for (int i = 0; i + 1 < columnsAndRows.length; i += 2) {
            int column = columnsAndRows[i];
            int row = columnsAndRows[i + 1];
            Check.due("build(" + column + ", " + row + ")", x.build(column, row), 1);
        }
    }

    static void buildRow(LedgeLeaps x, int row, int from, int to) {
        for (int column = from; column <= to; column++) {
            build(x, column, row);
        }
    }

    /**
     * Two ledges in the row 5, one from the column 0 on, one up to the column 19, above the ground. One comes down
     * from both, and with the rise 1, which is set, up to none.
     */
    static LedgeLeaps platforms(int cellsOfLeft, int firstOfRight) {
        LedgeLeaps x = new LedgeLeaps();
        buildRow(x, 4, 0, cellsOfLeft - 1);
        buildRow(x, 4, firstOfRight, 19);
        x.set(0, 1);
        return x;
    }

    /** A cell (5,0) with blocks on all sides: each leap from it ends in it, and none else does. */
    static LedgeLeaps box() {
        return with(4, 0, 6, 0, 5, 1);
    }

    /** A single cell (10,5), high above the ground: each leap from it leaves it, and none comes to it. */
    static LedgeLeaps tower() {
        LedgeLeaps x = with(10, 4);
        x.set(0, 1);
        return x;
    }

    /**
     * With the rise 1: from the right part of the ground, the ledge 1, no leap comes over the block at the column 8 to
     * the left one, the ledge 0; the top of the block is the ledge 2.
     */
    static LedgeLeaps dividedGround() {
        LedgeLeaps x = with(8, 0, 8, 1, 8, 2, 8, 3);
        x.set(0, 1);
        return x;
    }

    /** All cells hold blocks, but the one of the runner. */
    static LedgeLeaps full() {
        LedgeLeaps x = new LedgeLeaps();
        buildRow(x, 0, 1, 19);
        for (int row = 1; row < 10; row++) {
            buildRow(x, row, 0, 19);
        }
        return x;
    }

    /** Each other cell holds a block, so that there are as many ledges as there can be. */
    static LedgeLeaps chessboard() {
        LedgeLeaps x = new LedgeLeaps();
        for (int cell = 0; cell < 200; cell++) {
            if ((cell % 20 + cell / 20) % 2 == 1) {
                build(x, cell % 20, cell / 20);
            }
        }
        return x;
    }

    /** Some blocks by a written-out generator, none in the cell of the runner. */
    static LedgeLeaps scattered(int seed, int blocks) {
        LedgeLeaps x = new LedgeLeaps();
        long number = 7919L * seed + 17L;
        for (int i = 0; i < blocks; i++) {
            number = number * 6364136223846793005L + 1442695040888963407L;
            int cell = 1 + (int) ((number >>> 33) % 199);
            x.build(cell % 20, cell / 20);
        }
        return x;
    }
}

import java.lang.reflect.Method;
import java.lang.reflect.Modifier;

/** What the object is, the level, the runner and the settings. */
final class LevelTerms {
    private static final int NONE = LedgeLeaps.NONE;

    private LevelTerms() {
    }

    static void tell(Sentences s) {
        theObject(s);
        theLevel(s);
        standing(s);
        ledges(s);
        theRunner(s);
        theSettings(s);
    }

    private static void theObject(Sentences s) {
        s.section("What it is");
        s.holds("Jump arcs checked for ledges that only a running leap comes to: a level of cells with blocks, "
            + "ledges of cells on which one can stand, a runner who walks, takes a run-up and leaps, arcs that rise "
            + "and fall by ticks, heads that meet blocks, walls that are slid along, where a leap ends and why, heights "
            + "of an arc told tick by tick and at once, ledges that are come to from one another, standing or running, "
            + "the slowest run-up that does, the fewest leaps, told by spreading and by a table of all, ledges that no "
            + "leap comes to, blocks built and broken, orders as texts with errors by place, snapshots and undo.",
            "a ledge that only a running leap comes to, and the leap", () -> {
                LedgeLeaps x = Levels.platforms(5, 13);
                x.put(4, 5);
                Check.due("onlyRunning(0)", x.onlyRunning(0), 2);
                Check.due("slowest(1, 2)", x.slowest(1, 2), 2);
                Check.due("leap(1, 1)", x.leap(1, 1), 16);
                x.undo();
                Check.due("leap(1, 2)", x.leap(1, 2), 516);
                Check.counts(x, "behind the leap", 2, 16, 3, 5, 4, 2);
            });
        String calls = "An object is used for at most 512 calls after it has been made; what later calls answer is free.";
        s.holds(calls, "the 512th call, behind 511 refused ones", () -> {
            LedgeLeaps x = new LedgeLeaps();
            for (int i = 1; i <= 511; i++) {
                x.walk(-1);
            }
            Check.due("count(7) as the 512th call", x.count(7), 511);
        });
        s.holds(calls, "the 512th call, behind 511 leaps", () -> {
            LedgeLeaps x = new LedgeLeaps();
            for (int i = 1; i <= 511; i++) {
                x.leap(i % 2 == 0 ? 1 : -1, 0);
            }
            Check.due("count(5) as the 512th call", x.count(5), 511);
        });
        s.holds(calls, "the 512th call, behind 511 saved states", () -> {
            LedgeLeaps x = new LedgeLeaps();
            for (int i = 1; i <= 511; i++) {
                x.build(1 + i % 19, i % 10);
            }
            Check.due("undo() as the 512th call", x.undo(), 5);
        });
        s.holds(calls, "the 512th call, behind 8 full buffers", () -> {
            LedgeLeaps x = new LedgeLeaps();
            for (int i = 1; i <= 8 * 61 + 23; i++) {
                if (i % 61 == 0) {
                    x.clearBuffer();
                } else {
                    x.append('w');
                }
            }
            Check.due("clearBuffer() as the 512th call", x.clearBuffer(), 23);
        });
        s.section("Terms");
        s.holds("All numbers are integers, but for a share.", "what the methods return", () -> {
            for (Method method : LedgeLeaps.class.getDeclaredMethods()) {
                if (Modifier.isPublic(method.getModifiers())) {
                    String name = method.getName();
                    String due = name.equals("reachShare") ? "double" : name.equals("digest") ? "long" : "int";
                    Check.dueText("what " + name + " returns", method.getReturnType().getName(), due);
                }
            }
            Check.dueShare("reachShare()", Levels.with(5, 8).reachShare(), 1.0 / 2);
        });
    }

    private static void theLevel(Sentences s) {
        s.section("The level");
        String size = "The level has 20 columns, numbered from 0 at the left, and 10 rows, numbered from 0 at the bottom.";
        s.holds(size, "the cells at the corners", () -> {
            LedgeLeaps x = new LedgeLeaps();
            x.put(5, 0);
            for (int[] corner : new int[][] {{0, 0}, {19, 0}, {0, 9}, {19, 9}}) {
                Check.due("build(" + corner[0] + ", " + corner[1] + ")", x.build(corner[0], corner[1]), 1);
                Check.due("cellOf(" + corner[0] + ", " + corner[1] + ", 0)", x.cellOf(corner[0], corner[1], 0), 1);
            }
            Check.counts(x, "with blocks in the corners", 0, 4);
        });
        s.holds(size, "no cells beside them", () -> {
            LedgeLeaps x = new LedgeLeaps();
            Check.dueThrow(x, "cellOf(-1, 0, 0)", Check.INDEX, () -> x.cellOf(-1, 0, 0));
            Check.dueThrow(x, "cellOf(20, 0, 0)", Check.INDEX, () -> x.cellOf(20, 0, 0));
            Check.dueThrow(x, "cellOf(0, -1, 0)", Check.INDEX, () -> x.cellOf(0, -1, 0));
            Check.dueThrow(x, "cellOf(0, 10, 0)", Check.INDEX, () -> x.cellOf(0, 10, 0));
        });
        s.holds(size, "20 columns and 10 rows, and each cell is one by itself", () -> {
            LedgeLeaps x = Levels.full();
            Check.counts(x, "of a level with one cell without a block", 0, 199);
            Check.due("build(19, 9)", x.build(19, 9), 0);
            Check.due("cellOf(19, 9, 0)", x.cellOf(19, 9, 0), 0);
            Check.due("cellOf(18, 9, 0)", x.cellOf(18, 9, 0), 1);
            Check.due("cellOf(19, 8, 0)", x.cellOf(19, 8, 0), 1);
        });
        s.holds(size, "which side is the left one, and which end is the bottom", () -> {
            LedgeLeaps x = Levels.with(5, 4);
            Check.due("walk(1), to the right", x.walk(1), 1);
            Check.due("cellOf(5, 5, 1), above the block", x.cellOf(5, 5, 1), 1);
            Check.due("cellOf(5, 3, 1), below the block", x.cellOf(5, 3, 1), 0);
        });
        s.holds("A cell holds a block or not; at first none does.", "each cell of a new object", () -> {
            LedgeLeaps x = new LedgeLeaps();
            for (int cell = 0; cell < 200; cell++) {
                Check.due("cellOf of " + cell % 20 + ", " + cell / 20, x.cellOf(cell % 20, cell / 20, 0), 0);
            }
        });
        s.holds("A cell holds a block or not; at first none does.", "a block in one cell alone", () -> {
            LedgeLeaps x = Levels.with(7, 3);
            for (int cell = 0; cell < 200; cell++) {
                Check.due("cellOf of " + cell % 20 + ", " + cell / 20, x.cellOf(cell % 20, cell / 20, 0),
                    cell == 67 ? 1 : 0);
            }
        });
        beyondTheLevel(s);
    }

    private static void beyondTheLevel(Sentences s) {
        String likeBlocks = "The ground below the row 0, what is beyond the columns 0 and 19, and what is above the row 9 "
            + "are like blocks, too.";
        s.holds(likeBlocks, "the ground: one stands on it, and a leap ends on it", () -> {
            LedgeLeaps x = new LedgeLeaps();
            for (int column = 0; column < 20; column++) {
                Check.due("cellOf(" + column + ", 0, 1)", x.cellOf(column, 0, 1), 1);
            }
            Check.leapt(x, "5 0 1 0", 11, 0, 6, 3, 0);
        });
        s.holds(likeBlocks, "beyond the column 0: a wall, and no cells for a run-up", () -> {
            LedgeLeaps x = new LedgeLeaps();
            Check.due("walk(-1)", x.walk(-1), NONE);
            Check.leapt(x, "0 0 -1 0", 0, 0, 7, 3, 1);
            Check.due("cellOf(0, 0, 3)", x.cellOf(0, 0, 3), 0);
        });
        s.holds(likeBlocks, "beyond the column 19: a wall, and no cells for a run-up", () -> {
            LedgeLeaps x = new LedgeLeaps();
            x.put(19, 0);
            Check.due("walk(1)", x.walk(1), NONE);
            Check.leapt(x, "19 0 1 0", 19, 0, 7, 3, 1);
            Check.due("cellOf(19, 0, 4)", x.cellOf(19, 0, 4), 0);
        });
        s.holds(likeBlocks, "above the row 9: heads meet it", () -> {
            LedgeLeaps x = Levels.with(5, 8);
            // (6,9) and the head; then (7,8) (8,6) (9,3) (10,0) and the ground
            Check.leapt(x, "5 9 1 0", 11, 0, 6, 9, 0);
            x.set(0, 4);
            x.set(1, 5);
            // rises 4, 3 and 2 end in the row 9, the head is met in the fourth tick; then -1 -2 -3 and three of -4
            Check.leapt(x, "10 0 1 0", 18, 0, 8, 9, 0);
        });
        s.holds(likeBlocks, "none of them is counted as a block", () -> {
            Check.counts(new LedgeLeaps(), "of a new object", 0, 0);
        });
    }

    private static void standing(Sentences s) {
        String stand = "One can stand in a cell without a block, if the cell below is a block (or the ground).";
        s.holds(stand, "above a block", () -> Check.due("cellOf(7, 4, 1)", Levels.with(7, 3).cellOf(7, 4, 1), 1));
        s.holds(stand, "on the ground", () -> Check.due("cellOf(7, 0, 1)", Levels.with(7, 3).cellOf(7, 0, 1), 1));
        s.holds(stand, "above air", () -> {
            LedgeLeaps x = Levels.with(7, 3);
            Check.due("cellOf(7, 1, 1)", x.cellOf(7, 1, 1), 0);
            Check.due("cellOf(7, 5, 1)", x.cellOf(7, 5, 1), 0);
            Check.due("cellOf(6, 4, 1), beside one above a block", x.cellOf(6, 4, 1), 0);
        });
        s.holds(stand, "in a block", () -> {
            LedgeLeaps x = Levels.with(7, 3, 7, 4, 8, 0);
            Check.due("cellOf(7, 3, 1), above air", x.cellOf(7, 3, 1), 0);
            Check.due("cellOf(7, 4, 1), above a block", x.cellOf(7, 4, 1), 0);
            Check.due("cellOf(8, 0, 1), on the ground", x.cellOf(8, 0, 1), 0);
        });
        s.holds(stand, "in the row at the top", () -> {
            LedgeLeaps x = Levels.with(7, 8, 9, 8, 9, 9);
            Check.due("cellOf(7, 9, 1)", x.cellOf(7, 9, 1), 1);
            Check.due("cellOf(8, 9, 1)", x.cellOf(8, 9, 1), 0);
            Check.due("cellOf(9, 9, 1)", x.cellOf(9, 9, 1), 0);
        });
    }

    private static void dueLedge(LedgeLeaps x, int ledge, int row, int column, int cells) {
        Check.due("ledgeOf(" + ledge + ", 0)", x.ledgeOf(ledge, 0), row);
        Check.due("ledgeOf(" + ledge + ", 1)", x.ledgeOf(ledge, 1), column);
        Check.due("ledgeOf(" + ledge + ", 2)", x.ledgeOf(ledge, 2), cells);
    }

    private static void ledges(Sentences s) {
        String ledge = "A ledge is a row of cells side by side in one row in which one can stand, as long as it can be.";
        s.holds(ledge, "a whole row", () -> {
            LedgeLeaps x = new LedgeLeaps();
            Levels.buildRow(x, 3, 0, 19);
            Check.counts(x, "with a whole row of blocks", 1, 2);
            dueLedge(x, 0, 0, 0, 20);
            dueLedge(x, 1, 4, 0, 20);
        });
        s.holds(ledge, "one cell alone", () -> dueLedge(Levels.with(7, 3), 1, 4, 7, 1));
        s.holds(ledge, "parted by a block", () -> {
            LedgeLeaps x = Levels.with(7, 0);
            Check.counts(x, "with a block on the ground", 1, 3);
            dueLedge(x, 0, 0, 0, 7);
            dueLedge(x, 1, 0, 8, 12);
        });
        s.holds(ledge, "parted by air", () -> {
            LedgeLeaps x = Levels.with(2, 3, 3, 3, 5, 3);
            Check.counts(x, "with a gap", 1, 3);
            dueLedge(x, 1, 4, 2, 2);
            dueLedge(x, 2, 4, 5, 1);
        });
        s.holds(ledge, "stairs are ledges of a cell each", () -> {
            LedgeLeaps x = Levels.with(4, 3, 5, 4);
            Check.counts(x, "with stairs", 1, 3);
            dueLedge(x, 1, 4, 4, 1);
            dueLedge(x, 2, 5, 5, 1);
        });
        s.holds(ledge, "none goes on from the column 19 to the column 0 of the next row", () -> {
            LedgeLeaps x = Levels.with(19, 3, 0, 4);
            Check.counts(x, "with cells at both edges", 1, 3);
            dueLedge(x, 1, 4, 19, 1);
            dueLedge(x, 2, 5, 0, 1);
            x.put(5, 0);
            x.build(0, 0);
            dueLedge(x, 0, 0, 1, 19);
            dueLedge(x, 1, 1, 0, 1);
        });
        s.holds(ledge, "below blocks it goes on", () -> dueLedge(Levels.with(7, 1, 12, 1), 0, 0, 0, 20));
        String numbers = "Ledges are numbered from 0 by rows from below, then by columns.";
        s.holds(numbers, "by rows from below, in whatever order they are built", () -> {
            LedgeLeaps x = Levels.with(2, 7, 12, 5, 7, 3);
            dueLedge(x, 0, 0, 0, 20);
            dueLedge(x, 1, 4, 7, 1);
            dueLedge(x, 2, 6, 12, 1);
            dueLedge(x, 3, 8, 2, 1);
        });
        s.holds(numbers, "by columns in one row, in whatever order they are built", () -> {
            LedgeLeaps x = Levels.with(16, 3, 2, 3, 9, 3);
            dueLedge(x, 1, 4, 2, 1);
            dueLedge(x, 2, 4, 9, 1);
            dueLedge(x, 3, 4, 16, 1);
        });
        s.holds(numbers, "the most that there can be", () -> {
            LedgeLeaps x = Levels.chessboard();
            Check.counts(x, "of a level like a chessboard", 0, 100, 1, 100);
            dueLedge(x, 0, 0, 0, 1);
            dueLedge(x, 9, 0, 18, 1);
            dueLedge(x, 10, 1, 1, 1);
            dueLedge(x, 99, 9, 19, 1);
        });
    }

    private static void theRunner(Sentences s) {
        s.section("The runner");
        String runner = "The runner stands in a cell, at first the column 0 of the row 0.";
        s.holds(runner, "of a new object", () -> Check.counts(new LedgeLeaps(), "at first", 2, 0, 3, 0, 4, 0));
        s.holds(runner, "one can stand in the cell, whatever is done", () -> {
            for (int seed = 0; seed < 20; seed++) {
                LedgeLeaps x = Levels.scattered(seed, 60);
                for (int i = 0; i < 60; i++) {
                    x.leap(i % 3 == 0 ? 1 : -1, i % 4);
                    int below = x.count(3) - 1;
                    x.build(x.count(2), Math.max(below, 0));
                    Check.due("cellOf of the runner", x.cellOf(x.count(2), x.count(3), 1), 1);
                }
            }
        });
    }

    private static void theSettings(Sentences s) {
        s.section("Settings");
        setting(s, "0: the rise at first, 1 to 4, at first 2;", 0, 4, 2);
        setting(s, "1: the greatest fall, 1 to 5, at first 3;", 1, 5, 3);
        setting(s, "2: steps down in a tick along a wall, 1 to 5, at first 1.", 2, 5, 1);
        s.holds("0: the rise at first, 1 to 4, at first 2;", "what a leap is by the least and the greatest", () -> {
            LedgeLeaps x = new LedgeLeaps();
            x.set(0, 1);
            // (6,1) (7,1) (8,0) and the ground
            Check.leapt(x, "5 0 1 0", 9, 0, 4, 1, 0);
            x.set(0, 4);
            // the rows 4 7 9, the head, 8 6 3 0 and the ground
            Check.leapt(x, "5 0 1 0", 14, 0, 9, 9, 0);
        });
        s.holds("1: the greatest fall, 1 to 5, at first 3;", "what a leap is by the least and the greatest", () -> {
            LedgeLeaps x = Levels.with(2, 8);
            x.set(1, 1);
            // the head in the first tick, then nine rows by one each, and the ground
            Check.leapt(x, "2 9 1 0", 13, 0, 11, 9, 0);
            x.set(1, 5);
            // 8 6 3, and three steps of -4
            Check.leapt(x, "2 9 1 0", 7, 0, 5, 9, 0);
        });
        s.holds("2: steps down in a tick along a wall, 1 to 5, at first 1.", "what a leap is by the least and the greatest",
            () -> {
                LedgeLeaps x = Levels.with(2, 8);
                // the wall in the third tick: 8, then along it 7 to 0 by one each, and the ground
                Check.leapt(x, "2 9 -1 0", 0, 0, 11, 9, 1);
                x.set(2, 2);
                // 8, then 6 4 2 0, and the ground
                Check.leapt(x, "2 9 -1 0", 0, 0, 7, 9, 1);
                x.set(2, 5);
                x.set(1, 5);
                // 8 6 3, and three steps of -4
                Check.leapt(x, "2 9 -1 0", 0, 0, 5, 9, 1);
            });
    }

    private static void setting(Sentences s, String text, int setting, int greatest, int first) {
        s.holds(text, "at first", () -> Check.due("setting(" + setting + ")", new LedgeLeaps().setting(setting), first));
        s.holds(text, "each value from the least to the greatest", () -> {
            LedgeLeaps x = new LedgeLeaps();
            for (int value = 1; value <= greatest; value++) {
                x.set(setting, value);
                Check.due("setting(" + setting + ") behind set", x.setting(setting), value);
            }
        });
        s.holds(text, "too small and too great", () -> {
            LedgeLeaps x = new LedgeLeaps();
            for (int value : Check.outside(1, greatest)) {
                Check.dueThrow(x, "set(" + setting + ", " + value + ")", Check.ARGUMENT, () -> x.set(setting, value));
            }
        });
    }
}

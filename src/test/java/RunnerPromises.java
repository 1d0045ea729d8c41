/** Promises 4 to 6. */
final class RunnerPromises {
    private static final int NONE = LedgeLeaps.NONE;

    private RunnerPromises() {
    }

    static void tell(Sentences s) {
        walks(s);
        walksThatAreRefused(s);
        leaps(s);
        leapsThatAreRefused(s);
        puts(s);
    }

    private static void walks(Sentences s) {
        s.section("Promise 4: walk");
        s.holds("The runner walks to the next cell of the ledge.", "from one end to the other, and back", () -> {
            LedgeLeaps x = new LedgeLeaps();
            for (int column = 1; column <= 19; column++) {
                Check.due("walk(1)", x.walk(1), column);
            }
            for (int column = 18; column >= 0; column--) {
                Check.due("walk(-1)", x.walk(-1), column);
            }
            Check.counts(x, "behind walks", 2, 0, 3, 0, 5, 0, 6, 0, 7, 0);
        });
        s.holds("The runner walks to the next cell of the ledge.", "on blocks, above and below others", () -> {
            LedgeLeaps x = Levels.with(7, 3, 8, 3, 8, 5);
            x.put(7, 4);
            Check.due("walk(1)", x.walk(1), 8);
            Check.counts(x, "behind a walk", 2, 8, 3, 4);
        });
        s.holds("Undoable, also if it is refused.", "one that is done and one that is refused", () -> {
            LedgeLeaps x = new LedgeLeaps();
            x.walk(1);
            x.walk(-1);
            x.walk(-1);
            Check.counts(x, "behind three walks", 2, 0, 7, 1, 9, 3);
            Check.due("undo() of the refused one", x.undo(), 2);
            Check.counts(x, "behind it", 2, 0, 7, 0);
            Check.due("undo() of the second one", x.undo(), 1);
            Check.counts(x, "behind it", 2, 1);
            Check.due("undo() of the first one", x.undo(), 0);
            Check.counts(x, "behind it", 2, 0);
        });
        s.holds("- `side`: 1 or -1", "both", () -> {
            LedgeLeaps x = new LedgeLeaps();
            x.put(9, 0);
            Check.due("walk(1)", x.walk(1), 10);
            Check.due("walk(-1)", x.walk(-1), 9);
        });
        s.holds("Returns the column then;", "the least and the greatest", () -> {
            LedgeLeaps x = new LedgeLeaps();
            x.put(1, 0);
            Check.due("walk(-1)", x.walk(-1), 0);
            x.put(18, 0);
            Check.due("walk(1)", x.walk(1), 19);
        });
        s.holds("Throws `IllegalArgumentException` if side is neither 1 nor -1", "0, 2, -2 and beyond", () -> {
            LedgeLeaps x = new LedgeLeaps();
            x.put(9, 0);
            Check.dueThrow(x, "walk(0)", Check.ARGUMENT, () -> x.walk(0));
            for (int side : Check.outside(-1, 1)) {
                Check.dueThrow(x, "walk(" + side + ")", Check.ARGUMENT, () -> x.walk(side));
            }
        });
    }

    private static void dueRefused(LedgeLeaps x, int side) {
        int column = x.count(2);
        int row = x.count(3);
        int refused = x.count(7);
        Check.due("walk(" + side + ")", x.walk(side), NONE);
        Check.counts(x, "behind a refused walk", 2, column, 3, row, 7, refused + 1);
    }

    private static void walksThatAreRefused(Sentences s) {
        String refused = "NONE if it is refused, as one cannot stand in the next cell.";
        s.holds(refused, "beyond the column 0", () -> dueRefused(new LedgeLeaps(), -1));
        s.holds(refused, "beyond the column 19", () -> {
            LedgeLeaps x = Levels.with(19, 3, 0, 4);
            x.put(19, 0);
            dueRefused(x, 1);
            x.put(19, 4);
            dueRefused(x, 1);
            x.put(0, 5);
            dueRefused(x, -1);
        });
        s.holds(refused, "into a block", () -> {
            LedgeLeaps x = Levels.with(8, 0, 10, 0);
            x.put(9, 0);
            dueRefused(x, 1);
            dueRefused(x, -1);
        });
        s.holds(refused, "into the air, beyond the end of a ledge", () -> {
            LedgeLeaps x = Levels.with(7, 3);
            x.put(7, 4);
            dueRefused(x, 1);
            dueRefused(x, -1);
        });
        s.holds(refused, "a row down, and a row up", () -> {
            LedgeLeaps x = Levels.with(7, 0, 8, 0, 8, 1);
            x.put(7, 1);
            dueRefused(x, 1);
            dueRefused(x, -1);
        });
    }

    private static void leaps(Sentences s) {
        s.section("Promise 5: leap");
        s.holds("The runner leaps.", "the runner is where the leap ends, and it is counted", () -> {
            LedgeLeaps x = Levels.with(9, 1, 10, 1);
            x.put(5, 0);
            Check.due("leap(1, 0)", x.leap(1, 0), 210);
            Check.counts(x, "behind a leap", 2, 10, 3, 2, 4, 1, 5, 1, 6, 0, 7, 0);
            // with the run-up from (9,2): (12,4) (14,5) (16,5) (18,4), the wall, (19,3) (19,2) (19,1) (19,0)
            Check.due("leap(1, 1)", x.leap(1, 1), 19);
            Check.counts(x, "behind another", 2, 19, 3, 0, 4, 0, 5, 2, 6, 1, 7, 0);
        });
        s.holds("The runner leaps.", "as ifLeapt() tells", () -> {
            for (int seed = 0; seed < 30; seed++) {
                LedgeLeaps x = Levels.scattered(seed, 70);
                for (int i = 0; i < 60; i++) {
                    int side = i % 3 == 0 ? 1 : -1;
                    int row = x.ifLeapt(x.count(2), x.count(3), side, i % 4, 1);
                    int column = x.ifLeapt(x.count(2), x.count(3), side, i % 4, 0);
                    Check.due("leap(" + side + ", " + i % 4 + ")", x.leap(side, i % 4),
                        column == NONE ? NONE : 100 * row + column);
                }
            }
        });
        s.holds("Undoable, also if it is refused.", "one that is done and one that is refused", () -> {
            LedgeLeaps x = new LedgeLeaps();
            x.leap(-1, 0);
            x.leap(1, 0);
            x.put(0, 0);
            x.leap(1, 1);
            Check.counts(x, "behind four calls", 2, 0, 5, 2, 6, 1, 7, 1, 9, 4);
            Check.due("undo() of the refused one", x.undo(), 3);
            Check.counts(x, "behind it", 5, 2, 6, 1, 7, 0);
            x.undo();
            Check.due("undo() of the second leap", x.undo(), 1);
            Check.counts(x, "behind it", 2, 0, 5, 1, 6, 1);
            Check.due("undo() of the first leap", x.undo(), 0);
            Check.counts(x, "behind it", 2, 0, 5, 0, 6, 0);
        });
        s.holds("- `side`: 1 or -1", "both", () -> {
            LedgeLeaps x = new LedgeLeaps();
            Check.due("leap(1, 0)", x.leap(1, 0), 6);
            Check.due("leap(-1, 0)", x.leap(-1, 0), 0);
        });
        s.holds("- `runUp`: 0 to 3", "each of them", () -> {
            LedgeLeaps x = new LedgeLeaps();
            x.set(0, 1);
            for (int runUp = 0; runUp <= 3; runUp++) {
                x.put(3, 0);
                Check.due("leap(1, " + runUp + ")", x.leap(1, runUp), 3 + 4 * (runUp + 1));
                x.put(16, 0);
                Check.due("leap(-1, " + runUp + ")", x.leap(-1, runUp), 16 - 4 * (runUp + 1));
            }
        });
        s.holds("Returns 100 times the row, and the column, where the leap ends;", "the least and the greatest", () -> {
            LedgeLeaps x = Levels.with(15, 5, 19, 8);
            Check.due("leap(-1, 0)", x.leap(-1, 0), 0);
            x.put(13, 0);
            Check.due("leap(1, 0)", x.leap(1, 0), 19);
            x.put(15, 6);
            Check.due("leap(1, 0)", x.leap(1, 0), 919);
        });
        s.holds("Throws `IllegalArgumentException` if an argument is out of range", "sides", () -> {
            LedgeLeaps x = new LedgeLeaps();
            x.put(9, 0);
            Check.dueThrow(x, "leap(0, 0)", Check.ARGUMENT, () -> x.leap(0, 0));
            for (int side : Check.outside(-1, 1)) {
                Check.dueThrow(x, "leap(" + side + ", 0)", Check.ARGUMENT, () -> x.leap(side, 0));
            }
        });
        s.holds("Throws `IllegalArgumentException` if an argument is out of range", "run-ups", () -> {
            LedgeLeaps x = new LedgeLeaps();
            x.put(9, 0);
            for (int runUp : Check.outside(0, 3)) {
                Check.dueThrow(x, "leap(1, " + runUp + ")", Check.ARGUMENT, () -> x.leap(1, runUp));
                Check.dueThrow(x, "leap(-1, " + runUp + ")", Check.ARGUMENT, () -> x.leap(-1, runUp));
            }
        });
    }

    private static void leapsThatAreRefused(Sentences s) {
        String refused = "NONE if it is refused, as there are not enough cells for the run-up.";
        s.holds(refused, "each run-up with one cell too few, at both edges", () -> {
            LedgeLeaps x = new LedgeLeaps();
            for (int runUp = 1; runUp <= 3; runUp++) {
                x.put(runUp - 1, 0);
                Check.due("leap(1, " + runUp + ")", x.leap(1, runUp), NONE);
                Check.counts(x, "behind it", 2, runUp - 1, 5, 0, 7, 2 * runUp - 1);
                x.put(20 - runUp, 0);
                Check.due("leap(-1, " + runUp + ")", x.leap(-1, runUp), NONE);
                Check.counts(x, "behind it", 2, 20 - runUp, 3, 0, 5, 0, 6, 0, 7, 2 * runUp);
            }
        });
        s.holds(refused, "not with just enough cells", () -> {
            LedgeLeaps x = new LedgeLeaps();
            for (int runUp = 0; runUp <= 3; runUp++) {
                x.put(runUp, 0);
                x.leap(1, runUp);
                x.put(19 - runUp, 0);
                x.leap(-1, runUp);
            }
            Check.counts(x, "behind eight leaps", 5, 8, 7, 0);
        });
        s.holds(refused, "not for the wall, though the runner stays where it is", () -> {
            LedgeLeaps x = Levels.full();
            Check.due("leap(1, 0)", x.leap(1, 0), 0);
            Check.counts(x, "behind it", 2, 0, 3, 0, 5, 1, 6, 1, 7, 0);
            Check.due("leap(1, 1)", x.leap(1, 1), NONE);
            Check.counts(x, "behind a refused one", 5, 1, 6, 1, 7, 1);
        });
    }

    private static void puts(Sentences s) {
        s.section("Promise 6: put");
        s.holds("Puts the runner into a cell.", "up, down, and where it is", () -> {
            LedgeLeaps x = Levels.with(7, 8);
            x.put(7, 9);
            Check.counts(x, "behind put", 2, 7, 3, 9, 4, 1, 5, 0, 7, 0);
            x.put(12, 0);
            Check.counts(x, "behind put", 2, 12, 3, 0, 4, 0);
            x.put(12, 0);
            Check.counts(x, "behind put once more", 2, 12, 3, 0, 7, 0, 9, 4);
        });
        s.holds("Undoable, also if it is refused.", "one that is done and one that is refused", () -> {
            LedgeLeaps x = new LedgeLeaps();
            x.put(7, 0);
            x.put(7, 1);
            Check.counts(x, "behind two calls", 2, 7, 3, 0, 7, 1, 9, 2);
            Check.due("undo()", x.undo(), 1);
            Check.counts(x, "behind undo of the refused one", 2, 7, 7, 0);
            Check.due("undo()", x.undo(), 0);
            Check.counts(x, "behind undo of the other", 2, 0);
        });
        s.holds("- `column`: 0 to 19", "the least and the greatest", () -> {
            LedgeLeaps x = new LedgeLeaps();
            Check.due("put(19, 0)", x.put(19, 0), 0);
            Check.due("put(0, 0)", x.put(0, 0), 0);
        });
        s.holds("- `row`: 0 to 9", "the least and the greatest", () -> {
            LedgeLeaps x = Levels.with(7, 8);
            Check.due("put(7, 9)", x.put(7, 9), 1);
            Check.due("put(7, 0)", x.put(7, 0), 0);
        });
        s.holds("Returns the ledge of the cell;", "of each ledge", () -> {
            LedgeLeaps x = Levels.with(4, 3, 15, 3, 16, 3, 9, 7);
            Check.due("put(12, 0)", x.put(12, 0), 0);
            Check.due("put(4, 4)", x.put(4, 4), 1);
            Check.due("put(16, 4)", x.put(16, 4), 2);
            Check.due("put(9, 8)", x.put(9, 8), 3);
        });
        String refused = "NONE if it is refused, as one cannot stand there.";
        s.holds(refused, "into a block, into the air, and into a block at the top", () -> {
            LedgeLeaps x = Levels.with(16, 3, 19, 9);
            x.put(5, 0);
            Check.due("put(16, 3)", x.put(16, 3), NONE);
            Check.due("put(16, 5)", x.put(16, 5), NONE);
            Check.due("put(16, 2)", x.put(16, 2), NONE);
            Check.due("put(19, 9)", x.put(19, 9), NONE);
            Check.due("put(0, 9)", x.put(0, 9), NONE);
            Check.counts(x, "behind refused ones", 2, 5, 3, 0, 7, 5);
        });
        s.holds("Throws `IndexOutOfBoundsException` if there is no such cell", "columns and rows outside", () -> {
            LedgeLeaps x = new LedgeLeaps();
            for (int column : Check.outside(0, 19)) {
                Check.dueThrow(x, "put(" + column + ", 0)", Check.INDEX, () -> x.put(column, 0));
            }
            for (int row : Check.outside(0, 9)) {
                Check.dueThrow(x, "put(5, " + row + ")", Check.INDEX, () -> x.put(5, row));
            }
        });
    }
}

/** Promises 1 to 3. */
final class LevelPromises {
    private static final int NONE = LedgeLeaps.NONE;

    private LevelPromises() {
    }

    static void tell(Sentences s) {
        newObject(s);
        builds(s);
        falls(s);
        buildsThatAreRefused(s);
        sets(s);
    }

    private static void newObject(Sentences s) {
        s.section("Promise 1: A new object");
        String creates = "Creates a level without blocks, with empty slots and an empty buffer.";
        s.holds(creates, "no blocks", () -> {
            LedgeLeaps x = new LedgeLeaps();
            Check.counts(x, "of a new object", 0, 0, 1, 1, 2, 0, 3, 0, 4, 0, 5, 0, 6, 0, 7, 0, 8, 0, 9, 0);
            Check.settings(x, "of a new object", 2, 3, 1);
        });
        s.holds(creates, "empty slots", () -> {
            LedgeLeaps x = new LedgeLeaps();
            Check.dueThrow(x, "goBack(0)", Check.STATE, () -> x.goBack(0));
            Check.dueThrow(x, "goBack(1)", Check.STATE, () -> x.goBack(1));
        });
        s.holds(creates, "an empty buffer", () -> {
            LedgeLeaps x = new LedgeLeaps();
            Check.due("firstError()", x.firstError(), 0);
            Check.due("clearBuffer()", x.clearBuffer(), 0);
            Check.due("append(119)", x.append('w'), 1);
        });
        s.holds(creates, "nothing to be undone", () -> {
            LedgeLeaps x = new LedgeLeaps();
            Check.dueThrow(x, "undo()", Check.STATE, () -> x.undo());
        });
        s.holds(creates, "whatever is done with another object", () -> {
            LedgeLeaps other = SavingTerms.moved();
            other.keep(0);
            Check.type(other, "w+");
            LedgeLeaps x = new LedgeLeaps();
            LedgeLeaps y = new LedgeLeaps();
            other.build(3, 3);
            y.build(4, 4);
            Check.counts(x, "of a new object", 0, 0, 2, 0, 5, 0, 9, 0);
            Check.settings(x, "of a new object", 2, 3, 1);
            Check.due("clearBuffer()", x.clearBuffer(), 0);
            Check.dueThrow(x, "goBack(0)", Check.STATE, () -> x.goBack(0));
        });
    }

    private static void builds(Sentences s) {
        s.section("Promise 2: build");
        s.holds("Builds a block in a cell, or breaks the one that is there;", "built, broken, and built again", () -> {
            LedgeLeaps x = new LedgeLeaps();
            Check.due("build(7, 3)", x.build(7, 3), 1);
            Check.counts(x, "behind a build", 0, 1);
            Check.due("build(7, 3) again", x.build(7, 3), 0);
            Check.counts(x, "behind a break", 0, 0);
            Check.due("build(7, 3) once more", x.build(7, 3), 1);
            Check.counts(x, "behind a build", 0, 1, 7, 0, 9, 3);
        });
        s.holds("Builds a block in a cell, or breaks the one that is there;", "in the air, on a block, below a block", () -> {
            LedgeLeaps x = new LedgeLeaps();
            Check.due("build(7, 3)", x.build(7, 3), 1);
            Check.due("build(7, 4)", x.build(7, 4), 1);
            Check.due("build(7, 2)", x.build(7, 2), 1);
            Check.due("build(7, 3)", x.build(7, 3), 0);
            Check.due("cellOf(7, 4, 0)", x.cellOf(7, 4, 0), 1);
            Check.due("cellOf(7, 3, 1)", x.cellOf(7, 3, 1), 1);
        });
        s.holds("- `column`: 0 to 19", "the least and the greatest", () -> {
            LedgeLeaps x = new LedgeLeaps();
            Check.due("build(0, 5)", x.build(0, 5), 1);
            Check.due("build(19, 5)", x.build(19, 5), 1);
        });
        s.holds("- `row`: 0 to 9", "the least and the greatest", () -> {
            LedgeLeaps x = new LedgeLeaps();
            Check.due("build(5, 0)", x.build(5, 0), 1);
            Check.due("build(5, 9)", x.build(5, 9), 1);
        });
        s.holds("Returns 1 if there is a block then, 0 if not;", "a build and a break", () -> {
            LedgeLeaps x = new LedgeLeaps();
            Check.due("build(19, 9)", x.build(19, 9), 1);
            Check.due("build(19, 9)", x.build(19, 9), 0);
        });
        s.holds("Returns 1 if there is a block then, 0 if not;", "a break below the runner", () -> {
            LedgeLeaps x = Levels.with(7, 3);
            x.put(7, 4);
            Check.due("build(7, 3)", x.build(7, 3), 0);
        });
        s.holds("Throws `IndexOutOfBoundsException` if there is no such cell", "columns and rows outside", () -> {
            LedgeLeaps x = Levels.with(7, 3);
            for (int column : Check.outside(0, 19)) {
                Check.dueThrow(x, "build(" + column + ", 0)", Check.INDEX, () -> x.build(column, 0));
            }
            for (int row : Check.outside(0, 9)) {
                Check.dueThrow(x, "build(0, " + row + ")", Check.INDEX, () -> x.build(0, row));
                Check.dueThrow(x, "build(19, " + row + ")", Check.INDEX, () -> x.build(19, row));
            }
            Check.dueThrow(x, "build(-1, 5)", Check.INDEX, () -> x.build(-1, 5));
            Check.dueThrow(x, "build(20, 4)", Check.INDEX, () -> x.build(20, 4));
        });
    }

    private static void falls(Sentences s) {
        String falls = "the runner falls down then to the first cell in which one can stand, if there is nothing below any "
            + "more.";
        s.holds(falls, "to the ground from the row at the top", () -> {
            LedgeLeaps x = Levels.with(7, 8);
            x.put(7, 9);
            Check.due("build(7, 8)", x.build(7, 8), 0);
            Check.counts(x, "behind the fall", 0, 0, 2, 7, 3, 0, 4, 0, 5, 0, 6, 0, 7, 0);
        });
        s.holds(falls, "to the next block", () -> {
            LedgeLeaps x = Levels.with(7, 1, 7, 4, 7, 7);
            x.put(7, 8);
            x.build(7, 7);
            Check.counts(x, "behind the fall", 2, 7, 3, 5);
            x.build(7, 4);
            Check.counts(x, "behind the next fall", 2, 7, 3, 2);
            x.build(7, 1);
            Check.counts(x, "behind the last fall", 2, 7, 3, 0);
        });
        s.holds(falls, "by one row alone", () -> {
            LedgeLeaps x = Levels.with(7, 3, 7, 4);
            x.put(7, 5);
            x.build(7, 4);
            Check.counts(x, "behind the fall", 2, 7, 3, 4);
        });
        s.holds(falls, "from the row 1", () -> {
            LedgeLeaps x = Levels.with(7, 0);
            x.put(7, 1);
            x.build(7, 0);
            Check.counts(x, "behind the fall", 2, 7, 3, 0);
        });
        s.holds(falls, "not if another block is broken", () -> {
            LedgeLeaps x = Levels.with(6, 4, 7, 4, 8, 4, 7, 3, 7, 6);
            x.put(7, 5);
            x.build(6, 4);
            x.build(8, 4);
            x.build(7, 3);
            x.build(7, 6);
            Check.counts(x, "behind breaks beside, farther down and above", 2, 7, 3, 5);
        });
        s.holds(falls, "not if a block is built", () -> {
            LedgeLeaps x = Levels.with(7, 4);
            x.put(7, 5);
            Levels.build(x, 7, 3, 7, 0, 7, 6);
            Check.counts(x, "behind builds", 2, 7, 3, 5);
        });
    }

    private static void buildsThatAreRefused(Sentences s) {
        s.holds("Undoable, also if it is refused.", "a build, a break with a fall, and a refused one", () -> {
            LedgeLeaps x = new LedgeLeaps();
            x.build(7, 3);
            x.put(7, 4);
            x.build(7, 3);
            Check.due("build(7, 0), where the runner fell", x.build(7, 0), NONE);
            Check.counts(x, "behind four calls", 0, 0, 2, 7, 3, 0, 7, 1, 9, 4);
            Check.due("undo() of the refused one", x.undo(), 3);
            Check.counts(x, "behind it", 0, 0, 3, 0, 7, 0);
            Check.due("undo() of the break", x.undo(), 2);
            Check.counts(x, "behind it", 0, 1, 2, 7, 3, 4);
            x.undo();
            Check.due("undo() of the build", x.undo(), 0);
            Check.counts(x, "behind it", 0, 0, 2, 0);
        });
        String refused = "NONE if it is refused, as the runner stands in the cell.";
        s.holds(refused, "on the ground", () -> {
            LedgeLeaps x = new LedgeLeaps();
            Check.due("build(0, 0)", x.build(0, 0), NONE);
            Check.counts(x, "behind it", 0, 0, 2, 0, 3, 0, 7, 1);
            Check.due("cellOf(0, 0, 0)", x.cellOf(0, 0, 0), 0);
        });
        s.holds(refused, "on a block", () -> {
            LedgeLeaps x = Levels.with(7, 3);
            x.put(7, 4);
            Check.due("build(7, 4)", x.build(7, 4), NONE);
            Check.counts(x, "behind it", 0, 1, 2, 7, 3, 4, 7, 1);
        });
        s.holds(refused, "not in the cells beside it", () -> {
            LedgeLeaps x = Levels.with(7, 3);
            x.put(7, 4);
            Levels.build(x, 6, 4, 8, 4, 7, 5);
            Check.due("build(7, 3)", x.build(7, 3), 0);
            Check.counts(x, "behind four builds", 7, 0);
        });
        s.holds(refused, "not where the runner stood before", () -> {
            LedgeLeaps x = new LedgeLeaps();
            x.walk(1);
            Check.due("build(0, 0)", x.build(0, 0), 1);
            Check.due("build(1, 0)", x.build(1, 0), NONE);
        });
    }

    private static void sets(Sentences s) {
        s.section("Promise 3: set");
        s.holds("Changes a setting.", "this one alone", () -> {
            LedgeLeaps x = new LedgeLeaps();
            x.set(0, 4);
            Check.settings(x, "behind set(0, 4)", 4, 3, 1);
            x.set(1, 5);
            Check.settings(x, "behind set(1, 5)", 4, 5, 1);
            x.set(2, 3);
            Check.settings(x, "behind set(2, 3)", 4, 5, 3);
        });
        s.holds("Changes a setting.", "what was asked before is answered anew", () -> {
            LedgeLeaps x = Levels.with(9, 2);
            Check.due("slowest(0, 1)", x.slowest(0, 1), 0);
            x.set(0, 1);
            Check.due("slowest(0, 1) with a lesser rise", x.slowest(0, 1), NONE);
            Check.due("arc(1, 0)", x.arc(1, 0), 201);
        });
        s.holds("Undoable.", "also if it changes nothing", () -> {
            LedgeLeaps x = new LedgeLeaps();
            x.set(1, 5);
            x.set(1, 5);
            Check.counts(x, "behind set twice", 9, 2);
            Check.due("undo()", x.undo(), 1);
            Check.settings(x, "behind undo", 2, 5, 1);
            Check.due("undo()", x.undo(), 0);
            Check.settings(x, "behind undo twice", 2, 3, 1);
        });
        s.holds("- `setting`: 0 to 2", "the least and the greatest", () -> {
            LedgeLeaps x = new LedgeLeaps();
            Check.due("set(0, 3)", x.set(0, 3), 2);
            Check.due("set(1, 4)", x.set(1, 4), 3);
            Check.due("set(2, 2)", x.set(2, 2), 1);
        });
        s.holds("- `value`: the new value", "the least and the greatest", () -> {
            LedgeLeaps x = new LedgeLeaps();
            int[] greatest = {4, 5, 5};
            for (int setting = 0; setting < 3; setting++) {
                x.set(setting, 1);
                Check.due("set(" + setting + ", greatest)", x.set(setting, greatest[setting]), 1);
                Check.due("setting(" + setting + ")", x.setting(setting), greatest[setting]);
            }
        });
        s.holds("Returns the previous value.", "also if it is the same", () -> {
            LedgeLeaps x = new LedgeLeaps();
            Check.due("set(0, 4)", x.set(0, 4), 2);
            Check.due("set(0, 4) again", x.set(0, 4), 4);
            Check.due("set(0, 1)", x.set(0, 1), 4);
            x.undo();
            Check.due("set(0, 2) behind undo", x.set(0, 2), 4);
        });
        s.holds("Throws `IndexOutOfBoundsException` if there is no such setting", "below and above", () -> {
            LedgeLeaps x = new LedgeLeaps();
            for (int setting : Check.outside(0, 2)) {
                Check.dueThrow(x, "set(" + setting + ", 1)", Check.INDEX, () -> x.set(setting, 1));
            }
        });
        s.holds("Throws `IllegalArgumentException` if value is out of range", "below and above, of each", () -> {
            LedgeLeaps x = new LedgeLeaps();
            int[] greatest = {4, 5, 5};
            for (int i = 0; i < 3; i++) {
                int setting = i;
                for (int value : Check.outside(1, greatest[i])) {
                    Check.dueThrow(x, "set(" + i + ", " + value + ")", Check.ARGUMENT, () -> x.set(setting, value));
                }
            }
        });
    }
}

/** Promises 18 and 19. */
final class LeapPromises {
    private static final int NONE = LedgeLeaps.NONE;

    private LeapPromises() {
    }

    static void tell(Sentences s) {
        arcs(s);
        argumentsOfArcs(s);
        leaps(s);
        numbersOfLeaps(s);
        leapsThatAreNotPossible(s);
        argumentsOfLeaps(s);
    }

    private static void arcs(Sentences s) {
        s.section("Promise 18: arc");
        s.holds("Returns the height of an arc.", "by the settings as they are, and nothing is counted", () -> {
            LedgeLeaps x = new LedgeLeaps();
            Check.due("arc(1, 0)", x.arc(1, 0), 202);
            x.set(0, 4);
            Check.due("arc(1, 0) behind set", x.arc(1, 0), 204);
            x.undo();
            Check.due("arc(1, 0) behind undo", x.arc(1, 0), 202);
            x.set(2, 5);
            Check.due("arc(9, 0), of which the wall is no part", x.arc(9, 0), 188);
            Check.due("arc(9, 1), of which the wall is no part", x.arc(9, 1), 188);
            Check.counts(x, "behind arcs", 5, 0, 9, 1);
        });
        s.holds("- `ticks`: 0 to 30", "the least and the greatest", () -> {
            LedgeLeaps x = new LedgeLeaps();
            Check.due("arc(0, 0)", x.arc(0, 0), 200);
            Check.due("arc(0, 1)", x.arc(0, 1), 200);
            Check.due("arc(30, 0)", x.arc(30, 0), 125);
            Check.due("arc(30, 1)", x.arc(30, 1), 125);
        });
        s.holds("- `what`: 0: told tick by tick; 1: told at once, by the ticks until the fall is the greatest and those behind "
            + "that", "just up to the greatest fall, and beyond", () -> {
                LedgeLeaps x = new LedgeLeaps();
                // the rises 2 1 0 -1 -2, and -3 from then on
                int[] due = {202, 203, 203, 202, 200, 197, 194, 191};
                for (int ticks = 1; ticks <= 8; ticks++) {
                    Check.due("arc(" + ticks + ", 0)", x.arc(ticks, 0), due[ticks - 1]);
                    Check.due("arc(" + ticks + ", 1)", x.arc(ticks, 1), due[ticks - 1]);
                }
            });
        s.holds("Returns the height, plus 200 (the same for both).", "all settings and all ticks", () -> {
            for (int rise = 1; rise <= 4; rise++) {
                for (int fall = 1; fall <= 5; fall++) {
                    dueArcs(rise, fall);
                }
            }
        });
        s.holds("Returns the height, plus 200 (the same for both).", "the least and the greatest height", () -> {
            LedgeLeaps x = new LedgeLeaps();
            x.set(0, 1);
            x.set(1, 5);
            // the rises 1 0 -1 -2 -3 -4, and 24 times -5
            Check.due("arc(30, 0)", x.arc(30, 0), 71);
            Check.due("arc(30, 1)", x.arc(30, 1), 71);
            x.set(0, 4);
            Check.due("arc(5, 0)", x.arc(5, 0), 210);
            Check.due("arc(5, 1)", x.arc(5, 1), 210);
        });
    }

    private static void dueArcs(int rise, int fall) {
        LedgeLeaps x = new LedgeLeaps();
        x.set(0, rise);
        x.set(1, fall);
        int height = 200;
        for (int ticks = 0; ticks <= 30; ticks++) {
            String call = "arc(" + ticks + ", ..) with " + rise + ", " + fall;
            Check.due(call, x.arc(ticks, 0), height);
            Check.due(call, x.arc(ticks, 1), height);
            height += rise - ticks < -fall ? -fall : rise - ticks;
        }
    }

    private static void argumentsOfArcs(Sentences s) {
        String throwing = "Throws `IllegalArgumentException` if an argument is out of range";
        s.holds(throwing, "ticks below and above", () -> {
            LedgeLeaps x = new LedgeLeaps();
            for (int ticks : Check.outside(0, 30)) {
                Check.dueThrow(x, "arc(" + ticks + ", 0)", Check.ARGUMENT, () -> x.arc(ticks, 0));
                Check.dueThrow(x, "arc(" + ticks + ", 1)", Check.ARGUMENT, () -> x.arc(ticks, 1));
            }
        });
        s.holds(throwing, "what below and above", () -> {
            LedgeLeaps x = new LedgeLeaps();
            for (int what : Check.outside(0, 1)) {
                Check.dueThrow(x, "arc(0, " + what + ")", Check.ARGUMENT, () -> x.arc(0, what));
                Check.dueThrow(x, "arc(30, " + what + ")", Check.ARGUMENT, () -> x.arc(30, what));
            }
        });
    }

    private static void leaps(Sentences s) {
        s.section("Promise 19: ifLeapt");
        s.holds("Tells what a leap would be.", "wherever the runner is, and nothing is done", () -> {
            LedgeLeaps x = new LedgeLeaps();
            x.put(18, 0);
            Check.leapt(x, "5 0 1 0", 11, 0, 6, 3, 0);
            Check.counts(x, "behind it", 2, 18, 3, 0, 5, 0, 6, 0, 7, 0, 9, 1);
        });
        s.holds("Tells what a leap would be.", "through the cell of the runner", () -> {
            LedgeLeaps x = Levels.with(8, 2);
            x.put(8, 3);
            Check.leapt(x, "5 0 1 0", 11, 0, 6, 3, 0);
        });
        s.holds("- `column`: 0 to 19", "the least and the greatest", () -> {
            LedgeLeaps x = new LedgeLeaps();
            Check.leapt(x, "0 0 1 0", 6, 0, 6, 3, 0);
            Check.leapt(x, "19 0 -1 0", 13, 0, 6, 3, 0);
        });
        s.holds("- `row`: 0 to 9", "the least and the greatest", () -> {
            LedgeLeaps x = Levels.with(5, 8);
            Check.leapt(x, "5 0 1 0", 11, 0, 6, 3, 0);
            Check.leapt(x, "5 9 1 0", 11, 0, 6, 9, 0);
        });
        s.holds("- `side`: 1 or -1", "both", () -> {
            LedgeLeaps x = new LedgeLeaps();
            Check.leapt(x, "9 0 1 0", 15, 0, 6, 3, 0);
            Check.leapt(x, "9 0 -1 0", 3, 0, 6, 3, 0);
        });
        s.holds("- `runUp`: 0 to 3", "each of them", () -> {
            LedgeLeaps x = new LedgeLeaps();
            x.set(0, 1);
            for (int runUp = 0; runUp <= 3; runUp++) {
                Check.leapt(x, "3 0 1 " + runUp, 3 + 4 * (runUp + 1), 0, 4, 1, 0);
            }
        });
    }

    private static void dueNumber(LedgeLeaps x, int column, int row, int side, int what, int want) {
        String call = "ifLeapt(" + column + ", " + row + ", " + side + ", 0, " + what + ")";
        Check.due(call, x.ifLeapt(column, row, side, 0, what), want);
    }

    private static void numbersOfLeaps(Sentences s) {
        s.holds("- `what`: 0: the column,", "the least and the greatest", () -> {
            LedgeLeaps x = new LedgeLeaps();
            dueNumber(x, 6, 0, -1, 0, 0);
            dueNumber(x, 13, 0, 1, 0, 19);
        });
        s.holds("1: the row where it ends;", "the lowest and the highest", () -> {
            LedgeLeaps x = Levels.with(15, 5, 19, 8);
            dueNumber(x, 5, 0, 1, 1, 0);
            dueNumber(x, 15, 6, 1, 1, 9);
        });
        s.holds("2: its ticks, with the one in which it ends;", "the fewest, and many", () -> {
            dueNumber(Levels.box(), 5, 0, 1, 2, 2);
            dueNumber(new LedgeLeaps(), 5, 0, 1, 2, 6);
            LedgeLeaps x = new LedgeLeaps();
            x.set(0, 4);
            x.set(1, 1);
            // the rows 4 7 9, the head, nine times one down, and the ground
            dueNumber(x, 0, 0, -1, 2, 14);
            dueNumber(x, 0, 0, 1, 2, 14);
        });
        s.holds("3: the greatest row that it comes to, with that of its beginning;", "that of its beginning", () -> {
            dueNumber(Levels.box(), 5, 0, 1, 3, 0);
            LedgeLeaps x = Levels.with(5, 8);
            dueNumber(x, 5, 9, 1, 3, 9);
            dueNumber(Levels.with(5, 4, 6, 6), 5, 5, 1, 3, 5);
        });
        s.holds("3: the greatest row that it comes to, with that of its beginning;", "higher than where it ends", () -> {
            dueNumber(new LedgeLeaps(), 5, 0, 1, 3, 3);
            dueNumber(Levels.with(9, 1, 10, 1), 5, 0, 1, 3, 3);
            dueNumber(Levels.with(9, 1, 10, 1), 10, 2, 1, 3, 5);
        });
        s.holds("3: the greatest row that it comes to, with that of its beginning;", "lower than another leap before", () -> {
            LedgeLeaps x = Levels.with(5, 8);
            dueNumber(x, 5, 9, 1, 3, 9);
            dueNumber(x, 10, 0, 1, 3, 3);
            x.set(0, 1);
            dueNumber(x, 10, 0, 1, 3, 1);
            x.leap(1, 0);
            dueNumber(x, 10, 0, 1, 3, 1);
        });
        s.holds("4: 1 if a wall is met, otherwise 0", "in the first tick, in the last one, and in none", () -> {
            LedgeLeaps x = new LedgeLeaps();
            dueNumber(x, 0, 0, -1, 4, 1);
            dueNumber(x, 14, 0, 1, 4, 1);
            dueNumber(x, 13, 0, 1, 4, 0);
            dueNumber(Levels.with(6, 1), 5, 0, 1, 4, 0);
        });
        s.holds("Returns the number;", "anew behind a build", () -> {
            LedgeLeaps x = new LedgeLeaps();
            Check.leapt(x, "5 0 1 0", 11, 0, 6, 3, 0);
            x.build(10, 1);
            Check.leapt(x, "5 0 1 0", 10, 2, 5, 3, 0);
            x.undo();
            Check.leapt(x, "5 0 1 0", 11, 0, 6, 3, 0);
        });
    }

    private static void leapsThatAreNotPossible(Sentences s) {
        String none = "NONE if the leap is not possible there.";
        s.holds(none, "in the air, and in a block", () -> {
            LedgeLeaps x = Levels.with(7, 0);
            Check.notLeapt(x, "5 5 1 0");
            Check.notLeapt(x, "5 9 -1 3");
            Check.notLeapt(x, "7 0 1 0");
            Check.counts(x, "behind leaps that are not possible", 5, 0, 7, 0, 9, 1);
        });
        s.holds(none, "not enough cells for the run-up", () -> {
            LedgeLeaps x = Levels.with(7, 0);
            Check.notLeapt(x, "0 0 1 1");
            Check.notLeapt(x, "2 0 1 3");
            Check.notLeapt(x, "19 0 -1 1");
            Check.notLeapt(x, "17 0 -1 3");
            Check.notLeapt(x, "7 1 1 1");
            Check.notLeapt(x, "9 0 1 2");
            Check.notLeapt(x, "8 0 1 1");
            Check.counts(x, "behind leaps that are not possible", 5, 0, 7, 0, 9, 1);
        });
        s.holds(none, "just enough cells", () -> {
            LedgeLeaps x = Levels.with(7, 0);
            Check.due("ifLeapt(9, 0, 1, 1, 0)", x.ifLeapt(9, 0, 1, 1, 0), 19);
            Check.due("ifLeapt(3, 0, 1, 3, 1)", x.ifLeapt(3, 0, 1, 3, 1), 0);
        });
    }

    private static void argumentsOfLeaps(Sentences s) {
        s.holds("Throws `IndexOutOfBoundsException` if there is no such cell", "columns and rows outside", () -> {
            LedgeLeaps x = new LedgeLeaps();
            for (int column : Check.outside(0, 19)) {
                Check.dueThrow(x, "ifLeapt(" + column + ", 0, 1, 0, 0)", Check.INDEX, () -> x.ifLeapt(column, 0, 1, 0, 0));
            }
            for (int row : Check.outside(0, 9)) {
                Check.dueThrow(x, "ifLeapt(0, " + row + ", 1, 0, 0)", Check.INDEX, () -> x.ifLeapt(0, row, 1, 0, 0));
            }
        });
        String throwing = "Throws `IllegalArgumentException` if another argument is out of range";
        s.holds(throwing, "sides", () -> {
            LedgeLeaps x = new LedgeLeaps();
            Check.dueThrow(x, "ifLeapt(9, 0, 0, 0, 0)", Check.ARGUMENT, () -> x.ifLeapt(9, 0, 0, 0, 0));
            for (int side : Check.outside(-1, 1)) {
                Check.dueThrow(x, "ifLeapt(9, 0, " + side + ", 0, 0)", Check.ARGUMENT, () -> x.ifLeapt(9, 0, side, 0, 0));
            }
        });
        s.holds(throwing, "run-ups", () -> {
            LedgeLeaps x = new LedgeLeaps();
            for (int runUp : Check.outside(0, 3)) {
                Check.dueThrow(x, "ifLeapt(9, 0, 1, " + runUp + ", 0)", Check.ARGUMENT, () -> x.ifLeapt(9, 0, 1, runUp, 0));
            }
        });
        s.holds(throwing, "what", () -> {
            LedgeLeaps x = new LedgeLeaps();
            for (int what : Check.outside(0, 4)) {
                Check.dueThrow(x, "ifLeapt(9, 0, 1, 0, " + what + ")", Check.ARGUMENT, () -> x.ifLeapt(9, 0, 1, 0, what));
            }
        });
        s.holds(throwing, "also where the leap is not possible", () -> {
            LedgeLeaps x = new LedgeLeaps();
            Check.dueThrow(x, "ifLeapt(9, 5, 0, 0, 0)", Check.ARGUMENT, () -> x.ifLeapt(9, 5, 0, 0, 0));
            Check.dueThrow(x, "ifLeapt(9, 5, 1, 4, 0)", Check.ARGUMENT, () -> x.ifLeapt(9, 5, 1, 4, 0));
            Check.dueThrow(x, "ifLeapt(0, 0, 1, 1, 5)", Check.ARGUMENT, () -> x.ifLeapt(0, 0, 1, 1, 5));
        });
    }
}

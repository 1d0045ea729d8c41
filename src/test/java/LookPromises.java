/** Promises 14 to 17. */
final class LookPromises {
    private static final int NONE = LedgeLeaps.NONE;

    private LookPromises() {
    }

    static void tell(Sentences s) {
        cells(s);
        runUpsOfCells(s);
        ledges(s);
        reachesOfLedges(s);
        counts(s);
        countsOfTheRunner(s);
        otherCounts(s);
        settings(s);
    }

    private static void dueCell(LedgeLeaps x, int column, int row, int... numbers) {
        for (int what = 0; what < numbers.length; what++) {
            Check.due("cellOf(" + column + ", " + row + ", " + what + ")", x.cellOf(column, row, what), numbers[what]);
        }
    }

    private static void cells(Sentences s) {
        s.section("Promise 14: cellOf");
        s.holds("Returns something of a cell.", "a block, a cell above it, air, and the ground", () -> {
            LedgeLeaps x = Levels.with(7, 3);
            dueCell(x, 7, 3, 1, 0, NONE, NONE, NONE);
            dueCell(x, 7, 4, 0, 1, 1, 0, 0);
            dueCell(x, 7, 5, 0, 0, NONE, NONE, NONE);
            dueCell(x, 7, 0, 0, 1, 0, 3, 3);
        });
        s.holds("- `column`: 0 to 19", "the least and the greatest", () -> {
            LedgeLeaps x = new LedgeLeaps();
            dueCell(x, 0, 0, 0, 1, 0, 0, 3);
            dueCell(x, 19, 0, 0, 1, 0, 3, 0);
        });
        s.holds("- `row`: 0 to 9", "the least and the greatest", () -> {
            LedgeLeaps x = Levels.with(7, 8);
            dueCell(x, 7, 0, 0, 1, 0);
            dueCell(x, 7, 9, 0, 1, 1);
        });
        s.holds("- `what`: 0: 1 if it holds a block, otherwise 0;", "both", () -> {
            LedgeLeaps x = Levels.with(7, 3);
            dueCell(x, 7, 3, 1);
            dueCell(x, 8, 3, 0);
            dueCell(x, 7, 2, 0);
        });
        s.holds("1: 1 if one can stand in it, otherwise 0;", "both", () -> {
            LedgeLeaps x = Levels.with(7, 3);
            dueCell(x, 7, 4, 0, 1);
            dueCell(x, 7, 3, 1, 0);
            dueCell(x, 8, 4, 0, 0);
        });
        s.holds("2: its ledge, NONE if one cannot stand in it;", "of each ledge, of a block, and of air", () -> {
            LedgeLeaps x = Levels.with(2, 0, 5, 9, 6, 8, 0, 4, 19, 4);
            dueCell(x, 1, 0, 0, 1, 0);
            dueCell(x, 3, 0, 0, 1, 1);
            dueCell(x, 19, 0, 0, 1, 1);
            dueCell(x, 2, 1, 0, 1, 2);
            dueCell(x, 0, 5, 0, 1, 3);
            dueCell(x, 19, 5, 0, 1, 4);
            dueCell(x, 6, 9, 0, 1, 5);
            dueCell(x, 2, 0, 1, 0, NONE);
            dueCell(x, 5, 8, 0, 0, NONE);
        });
        s.holds("Returns the number.", "anew behind builds, breaks and undo", () -> {
            LedgeLeaps x = new LedgeLeaps();
            dueCell(x, 7, 4, 0, 0, NONE);
            x.build(7, 3);
            dueCell(x, 7, 4, 0, 1, 1);
            x.build(7, 3);
            dueCell(x, 7, 4, 0, 0, NONE);
            x.undo();
            dueCell(x, 7, 4, 0, 1, 1);
        });
        s.holds("Throws `IndexOutOfBoundsException` if there is no such cell", "columns and rows outside", () -> {
            LedgeLeaps x = new LedgeLeaps();
            for (int column : Check.outside(0, 19)) {
                Check.dueThrow(x, "cellOf(" + column + ", 0, 0)", Check.INDEX, () -> x.cellOf(column, 0, 0));
                Check.dueThrow(x, "cellOf(" + column + ", 5, 4)", Check.INDEX, () -> x.cellOf(column, 5, 4));
            }
            for (int row : Check.outside(0, 9)) {
                Check.dueThrow(x, "cellOf(0, " + row + ", 0)", Check.INDEX, () -> x.cellOf(0, row, 0));
                Check.dueThrow(x, "cellOf(19, " + row + ", 3)", Check.INDEX, () -> x.cellOf(19, row, 3));
            }
        });
        s.holds("Throws `IllegalArgumentException` if what is not 0 to 4", "below and above", () -> {
            LedgeLeaps x = new LedgeLeaps();
            for (int what : Check.outside(0, 4)) {
                Check.dueThrow(x, "cellOf(0, 0, " + what + ")", Check.ARGUMENT, () -> x.cellOf(0, 0, what));
                Check.dueThrow(x, "cellOf(5, 5, " + what + ")", Check.ARGUMENT, () -> x.cellOf(5, 5, what));
            }
        });
    }

    private static void runUpsOfCells(Sentences s) {
        String right = "3: the greatest run-up, 0 to 3, of a leap to the right from it,";
        String left = "4: to the left, NONE if one cannot stand in it";
        s.holds(right, "each cell of the ground: not above 3", () -> {
            LedgeLeaps x = new LedgeLeaps();
            for (int column = 0; column < 20; column++) {
                Check.due("cellOf(" + column + ", 0, 3)", x.cellOf(column, 0, 3), Math.min(3, column));
            }
        });
        s.holds(left, "each cell of the ground: not above 3", () -> {
            LedgeLeaps x = new LedgeLeaps();
            for (int column = 0; column < 20; column++) {
                Check.due("cellOf(" + column + ", 0, 4)", x.cellOf(column, 0, 4), Math.min(3, 19 - column));
            }
        });
        s.holds(right, "between blocks", () -> {
            LedgeLeaps x = Levels.with(8, 0, 12, 0);
            for (int i = 0; i < 3; i++) {
                Check.due("cellOf(" + (9 + i) + ", 0, 3)", x.cellOf(9 + i, 0, 3), i);
            }
            Check.due("cellOf(13, 0, 3)", x.cellOf(13, 0, 3), 0);
        });
        s.holds(left, "between blocks", () -> {
            LedgeLeaps x = Levels.with(8, 0, 12, 0);
            for (int i = 0; i < 3; i++) {
                Check.due("cellOf(" + (9 + i) + ", 0, 4)", x.cellOf(9 + i, 0, 4), 2 - i);
            }
            Check.due("cellOf(7, 0, 4)", x.cellOf(7, 0, 4), 0);
        });
        s.holds(right, "NONE in a block and in the air", () -> {
            LedgeLeaps x = Levels.with(8, 0);
            Check.due("cellOf(8, 0, 3)", x.cellOf(8, 0, 3), NONE);
            Check.due("cellOf(8, 2, 3)", x.cellOf(8, 2, 3), NONE);
            Check.due("cellOf(8, 1, 3)", x.cellOf(8, 1, 3), 0);
        });
        s.holds(left, "NONE in a block and in the air", () -> {
            LedgeLeaps x = Levels.with(8, 0);
            Check.due("cellOf(8, 0, 4)", x.cellOf(8, 0, 4), NONE);
            Check.due("cellOf(8, 2, 4)", x.cellOf(8, 2, 4), NONE);
            Check.due("cellOf(8, 1, 4)", x.cellOf(8, 1, 4), 0);
        });
    }

    private static void ledges(Sentences s) {
        s.section("Promise 15: ledgeOf");
        s.holds("Returns something of a ledge.", "of three", () -> {
            LedgeLeaps x = Levels.platforms(5, 13);
            int[][] due = {{0, 0, 20, 0, 0, 2}, {5, 0, 5, 2, 1, 1}, {5, 13, 7, 2, 1, 1}};
            for (int ledge = 0; ledge < 3; ledge++) {
                for (int what = 0; what < 6; what++) {
                    Check.due("ledgeOf(" + ledge + ", " + what + ")", x.ledgeOf(ledge, what), due[ledge][what]);
                }
            }
        });
        s.holds("- `ledge`: its number", "the first and the last of the most", () -> {
            LedgeLeaps x = Levels.chessboard();
            Check.due("ledgeOf(0, 2)", x.ledgeOf(0, 2), 1);
            Check.due("ledgeOf(99, 1)", x.ledgeOf(99, 1), 19);
            Check.dueThrow(x, "ledgeOf(100, 0)", Check.INDEX, () -> x.ledgeOf(100, 0));
        });
        s.holds("- `what`: 0: its row;", "the lowest and the highest", () -> {
            LedgeLeaps x = Levels.with(7, 8);
            Check.due("ledgeOf(0, 0)", x.ledgeOf(0, 0), 0);
            Check.due("ledgeOf(1, 0)", x.ledgeOf(1, 0), 9);
        });
        s.holds("1: its first column;", "the least and the greatest", () -> {
            LedgeLeaps x = Levels.with(0, 4, 1, 4, 19, 4);
            Check.due("ledgeOf(1, 1)", x.ledgeOf(1, 1), 0);
            Check.due("ledgeOf(2, 1)", x.ledgeOf(2, 1), 19);
        });
        s.holds("2: how many cells it has;", "the fewest and the most", () -> {
            LedgeLeaps x = Levels.with(7, 4);
            Check.due("ledgeOf(0, 2)", x.ledgeOf(0, 2), 20);
            Check.due("ledgeOf(1, 2)", x.ledgeOf(1, 2), 1);
        });
        s.holds("Returns the number.", "anew behind a break, and behind undo", () -> {
            LedgeLeaps x = Levels.with(3, 4, 4, 4, 5, 4);
            Check.due("ledgeOf(1, 2)", x.ledgeOf(1, 2), 3);
            x.build(4, 4);
            Check.due("ledgeOf(1, 2) behind a break", x.ledgeOf(1, 2), 1);
            Check.due("ledgeOf(2, 1) behind a break", x.ledgeOf(2, 1), 5);
            x.undo();
            Check.due("ledgeOf(1, 2) behind undo", x.ledgeOf(1, 2), 3);
            Check.dueThrow(x, "ledgeOf(2, 1)", Check.INDEX, () -> x.ledgeOf(2, 1));
        });
        s.holds("Throws `IndexOutOfBoundsException` if there is no such ledge", "below and above", () -> {
            LedgeLeaps x = Levels.platforms(5, 13);
            for (int ledge : Check.outside(0, 2)) {
                Check.dueThrow(x, "ledgeOf(" + ledge + ", 0)", Check.INDEX, () -> x.ledgeOf(ledge, 0));
                Check.dueThrow(x, "ledgeOf(" + ledge + ", 5)", Check.INDEX, () -> x.ledgeOf(ledge, 5));
            }
            LedgeLeaps y = new LedgeLeaps();
            Check.dueThrow(y, "ledgeOf(1, 0) of a new object", Check.INDEX, () -> y.ledgeOf(1, 0));
        });
        s.holds("Throws `IllegalArgumentException` if what is not 0 to 5", "below and above", () -> {
            LedgeLeaps x = Levels.platforms(5, 13);
            for (int what : Check.outside(0, 5)) {
                Check.dueThrow(x, "ledgeOf(2, " + what + ")", Check.ARGUMENT, () -> x.ledgeOf(2, what));
            }
        });
    }

    private static void reachesOfLedges(Sentences s) {
        String from = "3: to how many other ledges one can come from it by one leap;";
        String standing = "4: the same by leaps without run-up alone;";
        String to = "5: from how many other ledges one can come to it by one leap";
        s.holds(from, "not to itself, though a leap does", () -> {
            Check.due("ledgeOf(0, 3) of the ground alone", new LedgeLeaps().ledgeOf(0, 3), 0);
            Check.due("ledgeOf(1, 3) of a box", Levels.box().ledgeOf(1, 3), 0);
        });
        s.holds(from, "by one leap, not by two", () -> {
            LedgeLeaps x = Levels.with(4, 2, 5, 2, 9, 5, 10, 5, 14, 8, 15, 8);
            int[] due = {1, 2, 2, 3};
            for (int ledge = 0; ledge < 4; ledge++) {
                Check.due("ledgeOf(" + ledge + ", 3)", x.ledgeOf(ledge, 3), due[ledge]);
            }
        });
        s.holds(from, "from the cells at the edges and at the top", () -> {
            LedgeLeaps x = Levels.with(0, 4, 19, 4, 10, 8);
            for (int ledge = 1; ledge <= 3; ledge++) {
                Check.due("ledgeOf(" + ledge + ", 3)", x.ledgeOf(ledge, 3), 1);
            }
        });
        s.holds(standing, "a run-up of 0, and not one of 1, 2 or 3", () -> {
            int[] firsts = {8, 9, 13, 17};
            for (int first : firsts) {
                LedgeLeaps x = Levels.platforms(5, first);
                Check.due("ledgeOf(1, 3) with the column " + first, x.ledgeOf(1, 3), 2);
                Check.due("ledgeOf(1, 4) with the column " + first, x.ledgeOf(1, 4), first == 8 ? 2 : 1);
            }
        });
        s.holds(standing, "not to itself, though a leap does", () -> {
            Check.due("ledgeOf(0, 4) of the ground alone", new LedgeLeaps().ledgeOf(0, 4), 0);
            Check.due("ledgeOf(1, 4) of a box", Levels.box().ledgeOf(1, 4), 0);
        });
        s.holds(to, "not from itself, though a leap does", () -> {
            Check.due("ledgeOf(0, 5) of the ground alone", new LedgeLeaps().ledgeOf(0, 5), 0);
            Check.due("ledgeOf(1, 5) of a box", Levels.box().ledgeOf(1, 5), 0);
        });
        s.holds(to, "from the first ledge, and from the last one", () -> {
            LedgeLeaps x = Levels.with(9, 2);
            Check.due("ledgeOf(1, 5)", x.ledgeOf(1, 5), 1);
            Check.due("ledgeOf(0, 5)", x.ledgeOf(0, 5), 1);
        });
        s.holds(to, "by each run-up from 0 to 3", () -> {
            for (int first : new int[] {8, 9, 13, 17}) {
                LedgeLeaps x = Levels.platforms(5, first);
                Check.due("ledgeOf(2, 5) with the column " + first, x.ledgeOf(2, 5), 1);
            }
        });
        s.holds(to, "also by running leaps alone, and none up to a tower", () -> {
            LedgeLeaps x = Levels.platforms(5, 13);
            Check.due("ledgeOf(0, 5)", x.ledgeOf(0, 5), 2);
            Check.due("ledgeOf(2, 5)", x.ledgeOf(2, 5), 1);
            LedgeLeaps y = Levels.tower();
            Check.due("ledgeOf(1, 5) of a tower", y.ledgeOf(1, 5), 0);
            Check.due("ledgeOf(0, 5) below a tower", y.ledgeOf(0, 5), 1);
        });
    }

    private static void counts(Sentences s) {
        s.section("Promise 16: count");
        s.holds("- `what`: 0: blocks;", "none, and as many as can be", () -> {
            Check.counts(new LedgeLeaps(), "of a new object", 0, 0);
            Check.counts(Levels.full(), "of a full level", 0, 199);
        });
        s.holds("1: ledges;", "the fewest, and as many as can be", () -> {
            Check.counts(new LedgeLeaps(), "of a new object", 1, 1);
            Check.counts(Levels.full(), "of a full level", 1, 1);
            Check.counts(Levels.chessboard(), "of a level like a chessboard", 1, 100);
        });
        s.holds("Throws `IllegalArgumentException` if what is not 0 to 9", "below and above", () -> {
            LedgeLeaps x = new LedgeLeaps();
            for (int what : Check.outside(0, 9)) {
                Check.dueThrow(x, "count(" + what + ")", Check.ARGUMENT, () -> x.count(what));
            }
        });
        s.holds("Returns a number.", "each of them", () -> {
            LedgeLeaps x = SavingTerms.moved();
            Check.counts(x, "of an object that was moved", 0, 2, 1, 2, 2, 8, 3, 0, 4, 0, 5, 2, 6, 1, 7, 1, 8, 0, 9, 6);
        });
        s.holds("Returns the number.", "again the same", () -> {
            LedgeLeaps x = SavingTerms.moved();
            for (int what = 0; what <= 9; what++) {
                Check.due("count(" + what + ") again", x.count(what), x.count(what));
            }
        });
    }

    private static void countsOfTheRunner(Sentences s) {
        s.holds("2: the column of the runner;", "the least and the greatest", () -> {
            LedgeLeaps x = new LedgeLeaps();
            Check.counts(x, "at first", 2, 0);
            x.put(19, 0);
            Check.counts(x, "at the edge", 2, 19);
        });
        s.holds("3: the row;", "the least and the greatest", () -> {
            LedgeLeaps x = Levels.with(7, 8);
            Check.counts(x, "at first", 3, 0);
            x.put(7, 9);
            Check.counts(x, "at the top", 3, 9);
        });
        s.holds("4: the ledge;", "by numbers that change with the level", () -> {
            LedgeLeaps x = Levels.with(7, 4);
            Check.counts(x, "on the ground", 4, 0);
            x.put(7, 5);
            Check.counts(x, "on a block", 4, 1);
            x.build(3, 2);
            Check.counts(x, "above one more ledge", 4, 2);
            x.build(3, 2);
            Check.counts(x, "without it", 4, 1);
        });
        s.holds("5: leaps of the runner so far;", "those that are done alone", () -> {
            LedgeLeaps x = new LedgeLeaps();
            x.leap(1, 0);
            x.leap(-1, 0);
            Check.counts(x, "behind two leaps", 5, 2);
            x.put(0, 0);
            x.leap(1, 1);
            x.ifLeapt(5, 0, 1, 0, 0);
            x.walk(1);
            x.build(7, 7);
            Check.counts(x, "behind a refused one, a look and others", 5, 2);
        });
        s.holds("6: of these the ones in which a wall was met;", "at the edge, at a block, and at none", () -> {
            LedgeLeaps x = new LedgeLeaps();
            x.leap(-1, 0);
            Check.counts(x, "behind a leap to the edge", 5, 1, 6, 1);
            x.leap(1, 0);
            Check.counts(x, "behind one without a wall", 5, 2, 6, 1);
            x.build(7, 0);
            x.leap(1, 0);
            Check.counts(x, "behind one to a block", 5, 3, 6, 2);
            x.put(0, 0);
            x.leap(-1, 3);
            Check.counts(x, "behind one to the edge with the run-up 3", 5, 4, 6, 3);
            x.ifLeapt(0, 0, -1, 0, 4);
            Check.counts(x, "behind a look", 5, 4, 6, 3);
        });
        s.holds("6: of these the ones in which a wall was met;", "a wall in the last tick alone, and a head alone", () -> {
            LedgeLeaps x = new LedgeLeaps();
            x.put(14, 0);
            x.leap(1, 0);
            Check.counts(x, "behind a wall in the last tick", 2, 19, 6, 1);
            LedgeLeaps y = Levels.with(1, 1);
            y.leap(1, 0);
            Check.counts(y, "behind a head", 5, 1, 6, 0);
        });
    }

    private static void otherCounts(Sentences s) {
        s.holds("7: what was refused so far;", "build, walk, leap, put, and an order", () -> {
            LedgeLeaps x = new LedgeLeaps();
            x.build(0, 0);
            Check.counts(x, "behind build", 7, 1);
            x.walk(-1);
            Check.counts(x, "behind walk", 7, 2);
            x.leap(1, 1);
            Check.counts(x, "behind leap", 7, 3);
            x.put(5, 5);
            Check.counts(x, "behind put", 7, 4);
            Check.type(x, "w-");
            x.run();
            Check.counts(x, "behind run", 7, 5);
        });
        s.holds("7: what was refused so far;", "not what throws, what is not possible, or what is not found", () -> {
            LedgeLeaps x = new LedgeLeaps();
            Check.dueThrow(x, "walk(0)", Check.ARGUMENT, () -> x.walk(0));
            Check.dueThrow(x, "put(20, 0)", Check.INDEX, () -> x.put(20, 0));
            Check.dueThrow(x, "run()", Check.ARGUMENT, () -> x.run());
            x.ifLeapt(5, 5, 1, 0, 0);
            x.onlyRunning(0);
            x.cellOf(5, 5, 2);
            Check.counts(x, "behind them", 7, 0);
        });
        String none = "8: ledges to which one cannot come from that of the runner, by whatever leaps;";
        s.holds(none, "none, some, and all but that of the runner", () -> {
            Check.counts(new LedgeLeaps(), "of a new object", 8, 0);
            Check.counts(Levels.platforms(5, 13), "on the ground", 8, 2);
            Check.counts(Levels.chessboard(), "of a level like a chessboard", 8, 99);
        });
        s.holds(none, "from a ledge to which no leap comes back", () -> {
            LedgeLeaps x = Levels.tower();
            Check.counts(x, "below a tower", 8, 1);
            x.put(10, 5);
            Check.counts(x, "on a tower", 8, 0);
        });
        s.holds(none, "leaps in a row, and running ones too", () -> {
            Check.counts(Levels.with(4, 2, 5, 2, 9, 5, 10, 5, 14, 8, 15, 8), "of a chain", 8, 0);
            LedgeLeaps x = Levels.platforms(5, 17);
            x.put(4, 5);
            Check.counts(x, "of a gap for which the run-up 3 is needed", 8, 0);
            LedgeLeaps y = Levels.platforms(3, 17);
            y.put(2, 5);
            Check.counts(y, "of a gap for which there is no room for the run-up", 8, 1);
        });
        s.holds("9: saved states", "none, and as many as can be", () -> {
            LedgeLeaps x = new LedgeLeaps();
            Check.counts(x, "of a new object", 9, 0);
            for (int i = 1; i <= 8; i++) {
                x.walk(1);
                Check.counts(x, "behind " + i + " walks", 9, Math.min(i, 6));
            }
        });
    }

    private static void settings(Sentences s) {
        s.section("Promise 17: setting");
        s.holds("Returns a setting.", "of a new object", () -> Check.settings(new LedgeLeaps(), "of a new object", 2, 3, 1));
        s.holds("- `setting`: 0 to 2", "the least and the greatest", () -> {
            LedgeLeaps x = new LedgeLeaps();
            x.set(0, 4);
            x.set(2, 5);
            Check.settings(x, "behind set", 4, 3, 5);
        });
        s.holds("Returns its value.", "behind set, undo and goBack", () -> {
            LedgeLeaps x = new LedgeLeaps();
            x.keep(0);
            x.set(1, 5);
            Check.settings(x, "behind set", 2, 5, 1);
            x.goBack(0);
            Check.settings(x, "behind goBack", 2, 3, 1);
            x.undo();
            Check.settings(x, "behind undo", 2, 5, 1);
        });
        s.holds("Throws `IndexOutOfBoundsException` if there is no such setting", "below and above", () -> {
            LedgeLeaps x = new LedgeLeaps();
            for (int setting : Check.outside(0, 2)) {
                Check.dueThrow(x, "setting(" + setting + ")", Check.INDEX, () -> x.setting(setting));
            }
        });
    }
}

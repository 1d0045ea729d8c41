import java.util.ArrayList;
import java.util.List;
import java.util.function.Supplier;

/** Promise 24: the hash is put together from the other answers, as the document lists them. */
final class DigestPromise {
    /** Behind so many calls another object in the same state is asked, as none is used for more than 512. */
    private static final int CALLS = 300;

    private final Supplier<LedgeLeaps> made;
    private final List<Long> values = new ArrayList<>();
    private LedgeLeaps asked;
    private int calls;

    private DigestPromise(Supplier<LedgeLeaps> made) {
        this.made = made;
    }

    private LedgeLeaps x() {
        if (calls % CALLS == 0) {
            asked = made.get();
        }
        calls++;
        return asked;
    }

    private void add(long value) {
        values.add(value);
    }

    private static void due(Supplier<LedgeLeaps> made, boolean first, boolean second, String buffer) {
        DigestPromise list = new DigestPromise(made);
        list.addCounts();
        list.addCells();
        list.addLedges();
        list.addLeaps();
        list.add(Double.doubleToLongBits(list.x().reachShare()));
        list.add(first ? 1 : 0);
        list.add(second ? 1 : 0);
        list.add(buffer.length());
        for (char code : buffer.toCharArray()) {
            list.add(code);
        }
        long hash = 3511;
        for (long value : list.values) {
            hash = 31 * hash + value;
        }
        Check.due("digest()", made.get().digest(), hash);
    }

    private static void due(Supplier<LedgeLeaps> made) {
        due(made, false, false, "");
    }

    private void addCounts() {
        for (int what = 0; what <= 9; what++) {
            add(x().count(what));
        }
        for (int setting = 0; setting <= 2; setting++) {
            add(x().setting(setting));
        }
    }

    private void addCells() {
        for (int cell = 0; cell < 200; cell++) {
            for (int what = 0; what <= 2; what++) {
                add(x().cellOf(cell % 20, cell / 20, what));
            }
        }
    }

    private void addLedges() {
        int size = x().count(1);
        int from = x().count(4);
        for (int ledge = 0; ledge < size; ledge++) {
            for (int what = 0; what <= 5; what++) {
                add(x().ledgeOf(ledge, what));
            }
            add(x().fewest(from, ledge, 3, 0));
            add(x().fewest(from, ledge, 3, 1));
        }
    }

    private void addLeaps() {
        int column = x().count(2);
        int row = x().count(3);
        for (int side = 1; side >= -1; side -= 2) {
            for (int i = 0; i < 10; i++) {
                add(x().ifLeapt(column, row, side, i / 5, i % 5));
            }
        }
        add(x().arc(5, 0));
        add(x().arc(5, 1));
        for (int rank = 0; rank <= 2; rank++) {
            add(x().onlyRunning(rank));
        }
    }

    private static LedgeLeaps typed(String text) {
        LedgeLeaps x = new LedgeLeaps();
        Check.type(x, text);
        return x;
    }

    private static LedgeLeaps platformsFrom(int column, int row) {
        LedgeLeaps x = Levels.platforms(5, 13);
        x.put(column, row);
        return x;
    }

    static void tell(Sentences s) {
        s.section("Promise 24: digest");
        s.holds("Computes a hash of the whole state.", "a new object", () -> due(() -> new LedgeLeaps()));
        s.holds("Computes a hash of the whole state.", "objects that were moved", () -> {
            due(() -> SavingTerms.moved());
            due(() -> movedOn(0));
            due(() -> movedOn(2));
        });
        hash(s);
        levels(s);
        runner(s);
        shares(s);
        slotsAndBuffer(s);
        s.holds("Returns the hash.", "again the same, and another one for another state", () -> {
            LedgeLeaps x = new LedgeLeaps();
            long before = x.digest();
            Check.due("digest() again", x.digest(), before);
            x.walk(1);
            Check.holds("that digest() is another one", x.digest() != before);
            x.undo();
            Check.due("digest() behind undo", x.digest(), before);
        });
    }

    private static LedgeLeaps movedOn(int undone) {
        LedgeLeaps x = SavingTerms.moved();
        SavingTerms.moveOn(x);
        for (int i = 0; i < undone; i++) {
            x.undo();
        }
        return x;
    }

    private static void hash(Sentences s) {
        s.holds("The hash starts at 3511. For each value v of the following list, in order, the hash becomes 31 * hash + v, in "
            + "long arithmetic with overflow.", "behind run", () -> due(() -> {
                LedgeLeaps x = typed("b9,1;l+0;w-");
                x.run();
                return x;
            }));
        s.holds("The values are: count(0) to count(9); the settings 0 to 2;", "each of them another number", () -> due(() -> {
            LedgeLeaps x = Levels.with(5, 4, 9, 4, 12, 6);
            x.set(0, 1);
            x.set(1, 2);
            x.set(2, 4);
            x.leap(-1, 0);
            x.put(9, 5);
            x.walk(1);
            return x;
        }));
    }

    private static void levels(Sentences s) {
        s.holds("for each cell, row by row from the row 0 on, its numbers 0 to 2;", "blocks in corners, and all blocks", () -> {
            due(() -> Levels.with(19, 0, 0, 9, 19, 9));
            due(() -> Levels.full());
        });
        s.holds("for each ledge its numbers 0 to 5, and fewest from the ledge of the runner to it with the run-up 3, with 0, "
            + "then with 1;", "from each end of a chain, and the most ledges", () -> {
                due(() -> Levels.with(4, 2, 5, 2, 9, 5, 10, 5, 14, 8, 15, 8));
                due(() -> {
                    LedgeLeaps x = Levels.with(4, 2, 5, 2, 9, 5, 10, 5, 14, 8, 15, 8);
                    x.put(15, 9);
                    return x;
                });
                due(() -> Levels.chessboard());
            });
    }

    private static void runner(Sentences s) {
        s.holds("for the cell of the runner, to the right and then to the left, with the run-ups 0 and 1: ifLeapt with 0 to 4;",
            "where they are possible, and where they are not", () -> {
                for (int[] cell : new int[][] {{0, 0}, {19, 0}, {0, 5}, {4, 5}, {13, 5}}) {
                    due(() -> platformsFrom(cell[0], cell[1]));
                }
            });
        s.holds("arc of 5 with 0, then with 1;", "other settings", () -> due(() -> {
            LedgeLeaps x = new LedgeLeaps();
            x.set(0, 4);
            x.set(1, 1);
            return x;
        }));
        s.holds("onlyRunning of 0 to 2;", "none, one, and three", () -> {
            due(() -> platformsFrom(0, 0));
            due(() -> platformsFrom(4, 5));
            due(() -> {
                LedgeLeaps x = platformsFrom(4, 5);
                Levels.build(x, 17, 5);
                return x;
            });
        });
    }

    private static void shares(Sentences s) {
        String bits = "the bits of reachShare (as Double.doubleToLongBits);";
        s.holds(bits, "many levels", () -> {
            for (int i = 0; i < 80; i++) {
                int seed = i;
                due(() -> Levels.scattered(seed, 3 + seed));
            }
        });
        s.holds(bits, "the whole, and the least", () -> {
            due(() -> new LedgeLeaps());
            due(() -> Levels.chessboard());
        });
    }

    private static void slotsAndBuffer(Sentences s) {
        String slots = "for each slot 1 if it has a snapshot, otherwise 0;";
        s.holds(slots, "none, one, the other one, and both", () -> {
            due(() -> keptIn(), false, false, "");
            due(() -> keptIn(0), true, false, "");
            due(() -> keptIn(1), false, true, "");
            due(() -> keptIn(1, 0), true, true, "");
        });
        s.holds(slots, "behind goBack and undo", () -> due(() -> {
            LedgeLeaps x = keptIn(1);
            x.goBack(1);
            x.keep(0);
            x.undo();
            return x;
        }, true, true, ""));
        s.holds("the length of the buffer and each of its character codes.", "none, one, some, full, and cleared", () -> {
            for (String text : new String[] {"", "!", "!b5,5;l+0~", "w+;".repeat(20)}) {
                due(() -> typed(text), false, false, text);
            }
            due(() -> {
                LedgeLeaps x = typed("w+;l");
                x.clearBuffer();
                x.append('b');
                return x;
            }, false, false, "b");
        });
    }

    private static LedgeLeaps keptIn(int... slots) {
        LedgeLeaps x = new LedgeLeaps();
        for (int slot : slots) {
            x.keep(slot);
        }
        return x;
    }
}

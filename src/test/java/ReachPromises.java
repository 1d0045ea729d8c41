/** Promises 20 to 23. */
final class ReachPromises {
    private static final int NONE = LedgeLeaps.NONE;

    private ReachPromises() {
    }

    static void tell(Sentences s) {
        slowest(s);
        slowestOfNone(s);
        fewest(s);
        fewestOfNone(s);
        onlyRunning(s);
        onlyRunningOfNone(s);
        share(s);
    }

    private static void slowest(Sentences s) {
        s.section("Promise 20: slowest");
        s.holds("Finds the slowest run-up with which one comes from a ledge to another one by one leap.", "both ways", () -> {
            LedgeLeaps x = Levels.platforms(5, 13);
            int[][] due = {{0, NONE, NONE}, {0, 0, 2}, {0, 2, 0}};
            for (int from = 0; from < 3; from++) {
                for (int to = 0; to < 3; to++) {
                    Check.due("slowest(" + from + ", " + to + ")", x.slowest(from, to), due[from][to]);
                }
            }
        });
        s.holds("- `from`: a ledge", "the first and the last one", () -> {
            LedgeLeaps x = Levels.with(9, 2);
            Check.due("slowest(0, 1)", x.slowest(0, 1), 0);
            Check.due("slowest(1, 0)", x.slowest(1, 0), 0);
        });
        s.holds("- `to`: a ledge (perhaps the same)", "the same", () -> {
            Check.due("slowest(0, 0) of the ground", new LedgeLeaps().slowest(0, 0), 0);
            Check.due("slowest(1, 1) of a box", Levels.box().slowest(1, 1), 0);
            Check.due("slowest(1, 1) of a tower", Levels.tower().slowest(1, 1), NONE);
        });
        int[] firsts = {8, 9, 12, 13, 16, 17, 19};
        int[] least = {0, 1, 1, 2, 2, 3, 3};
        for (int i = 0; i < firsts.length; i++) {
            int first = firsts[i];
            int due = least[i];
            s.holds("Returns the least run-up, 0 to 3;", "a gap up to the column " + first, () -> {
                LedgeLeaps x = Levels.platforms(5, first);
                Check.due("slowest(1, 2)", x.slowest(1, 2), due);
            });
        }
        s.holds("Returns the least run-up, 0 to 3;", "to the left, too", () -> {
            for (int i = 0; i < 6; i++) {
                LedgeLeaps x = Levels.platforms(20 - firsts[i], 15);
                Check.due("slowest(2, 1) from the column 15", x.slowest(2, 1), least[i]);
            }
        });
    }

    private static void slowestOfNone(Sentences s) {
        s.holds("NONE if no leap does.", "too far, too high, and by two leaps alone", () -> {
            LedgeLeaps x = Levels.platforms(3, 17);
            Check.due("slowest(1, 2), too far for the run-up that there is room for", x.slowest(1, 2), NONE);
            Check.due("slowest(0, 1), too high", x.slowest(0, 1), NONE);
            LedgeLeaps y = Levels.with(4, 2, 5, 2, 9, 5, 10, 5);
            Check.due("slowest(0, 2), by two leaps alone", y.slowest(0, 2), NONE);
        });
        s.holds("Throws `IndexOutOfBoundsException` if there is no such ledge", "from and to, below and above", () -> {
            LedgeLeaps x = Levels.platforms(5, 13);
            for (int ledge : Check.outside(0, 2)) {
                Check.dueThrow(x, "slowest(" + ledge + ", 0)", Check.INDEX, () -> x.slowest(ledge, 0));
                Check.dueThrow(x, "slowest(0, " + ledge + ")", Check.INDEX, () -> x.slowest(0, ledge));
                Check.dueThrow(x, "slowest(" + ledge + ", " + ledge + ")", Check.INDEX, () -> x.slowest(ledge, ledge));
            }
        });
    }

    private static void fewest(Sentences s) {
        s.section("Promise 21: fewest");
        s.holds("Returns the fewest leaps from a ledge to another one.", "fewer than by another way", () -> {
            LedgeLeaps x = Levels.platforms(5, 12);
            Levels.build(x, 8, 4);
            Check.fewest(x, 1, 3, 0, 2);
            Check.fewest(x, 1, 3, 3, 1);
            Check.fewest(x, 1, 2, 0, 1);
            Check.fewest(x, 3, 1, 0, 2);
        });
        s.holds("- `from`: a ledge", "the first and the last one", () -> {
            LedgeLeaps x = Levels.with(9, 2);
            Check.fewest(x, 0, 1, 3, 1);
            Check.fewest(x, 1, 0, 3, 1);
        });
        s.holds("- `to`: a ledge", "the first and the last one, and the same", () -> {
            LedgeLeaps x = Levels.with(9, 2);
            Check.fewest(x, 1, 0, 0, 1);
            Check.fewest(x, 0, 1, 0, 1);
            Check.fewest(x, 1, 1, 0, 0);
        });
        s.holds("- `runUp`: 0 to 3: the greatest run-up", "each of them", () -> {
            int[] firsts = {8, 9, 13, 17};
            for (int needed = 0; needed <= 3; needed++) {
                LedgeLeaps x = Levels.platforms(5, firsts[needed]);
                for (int runUp = 0; runUp <= 3; runUp++) {
                    Check.fewest(x, 1, 2, runUp, runUp < needed ? NONE : 1);
                }
            }
        });
        s.holds("- `runUp`: 0 to 3: the greatest run-up", "asked for in another order", () -> {
            LedgeLeaps x = Levels.platforms(5, 9);
            Check.fewest(x, 1, 2, 3, 1);
            Check.fewest(x, 1, 2, 0, NONE);
            Check.fewest(x, 2, 1, 1, 1);
            Check.fewest(x, 1, 2, 1, 1);
            Check.fewest(x, 1, 2, 0, NONE);
        });
        s.holds("- `what`: 0: told by spreading from the one ledge; 1: told by a table of all ledges, with one ledge more between "
            + "them each time", "a way over ledges of greater and of lesser numbers", () -> {
                LedgeLeaps x = Levels.with(4, 2, 5, 2, 9, 5, 10, 5, 14, 8, 15, 8);
                Check.fewest(x, 0, 3, 3, 3);
                Check.fewest(x, 1, 3, 3, 2);
                // the ledges (14..15,3) (9..10,6) (4..5,9), from the right to the left
                LedgeLeaps y = Levels.with(14, 2, 15, 2, 9, 5, 10, 5, 4, 8, 5, 8);
                Check.fewest(y, 0, 3, 3, 3);
                Check.fewest(y, 1, 3, 3, 2);
                Check.fewest(y, 3, 0, 3, 1);
            });
        s.holds("Returns the fewest (the same for both);", "to the first ledge over another one", () -> {
            LedgeLeaps x = Levels.dividedGround();
            Levels.build(x, 12, 3);
            // from (12,4) to (8,4), and from there to the left part of the ground
            Check.fewest(x, 3, 0, 3, 2);
            Check.fewest(x, 3, 2, 3, 1);
            Check.fewest(x, 2, 0, 3, 1);
            Check.fewest(x, 1, 0, 3, NONE);
        });
        s.holds("Returns the fewest (the same for both);", "many levels, both against leaps in a row", () -> {
            for (int seed = 0; seed < 40; seed++) {
                sameForBoth(seed);
            }
        });
    }

    /** What is told for a ledge is one more than the least of those from which one leap comes to it. */
    private static void sameForBoth(int seed) {
        LedgeLeaps x = Levels.scattered(seed, 30 + seed);
        x.set(0, 1 + seed % 4);
        int size = x.count(1);
        int runUp = seed % 4;
        int[] told = new int[size];
        for (int to = 0; to < size; to++) {
            told[to] = x.fewest(0, to, runUp, 0);
            Check.due("fewest(0, " + to + ", " + runUp + ", 1)", x.fewest(0, to, runUp, 1), told[to]);
        }
        int to = seed % size;
        int due = to == 0 ? 0 : NONE;
        for (int between = 0; between < size && to != 0; between++) {
            int slowest = x.slowest(between, to);
            boolean comes = slowest != NONE && slowest <= runUp && told[between] != NONE;
            due = comes && (due == NONE || told[between] + 1 < due) ? told[between] + 1 : due;
        }
        Check.due("fewest(0, " + to + ", " + runUp + ", 0)", told[to], due);
    }

    private static void fewestOfNone(Sentences s) {
        s.holds("NONE if one cannot come there.", "too high, and shut in", () -> {
            Check.fewest(Levels.tower(), 0, 1, 3, NONE);
            Check.fewest(Levels.box(), 1, 0, 3, NONE);
            Check.fewest(Levels.box(), 0, 1, 3, NONE);
            LedgeLeaps x = Levels.chessboard();
            Check.fewest(x, 0, 99, 3, NONE);
            Check.fewest(x, 99, 0, 3, NONE);
            Check.fewest(x, 99, 99, 3, 0);
        });
        s.holds("Throws `IndexOutOfBoundsException` if there is no such ledge", "from and to, below and above", () -> {
            LedgeLeaps x = Levels.platforms(5, 13);
            for (int ledge : Check.outside(0, 2)) {
                for (int what = 0; what <= 1; what++) {
                    int told = what;
                    String end = ", 0, " + what + ")";
                    Check.dueThrow(x, "fewest(" + ledge + ", 0" + end, Check.INDEX, () -> x.fewest(ledge, 0, 0, told));
                    Check.dueThrow(x, "fewest(0, " + ledge + end, Check.INDEX, () -> x.fewest(0, ledge, 0, told));
                    Check.dueThrow(x, "fewest(" + ledge + ", " + ledge + end, Check.INDEX,
                        () -> x.fewest(ledge, ledge, 0, told));
                }
            }
        });
        s.holds("Throws `IllegalArgumentException` if another argument is out of range", "run-ups", () -> {
            LedgeLeaps x = Levels.platforms(5, 13);
            for (int runUp : Check.outside(0, 3)) {
                Check.dueThrow(x, "fewest(1, 2, " + runUp + ", 0)", Check.ARGUMENT, () -> x.fewest(1, 2, runUp, 0));
                Check.dueThrow(x, "fewest(1, 1, " + runUp + ", 1)", Check.ARGUMENT, () -> x.fewest(1, 1, runUp, 1));
            }
        });
        s.holds("Throws `IllegalArgumentException` if another argument is out of range", "what", () -> {
            LedgeLeaps x = Levels.platforms(5, 13);
            for (int what : Check.outside(0, 1)) {
                Check.dueThrow(x, "fewest(1, 2, 0, " + what + ")", Check.ARGUMENT, () -> x.fewest(1, 2, 0, what));
                Check.dueThrow(x, "fewest(1, 1, 3, " + what + ")", Check.ARGUMENT, () -> x.fewest(1, 1, 3, what));
            }
        });
    }

    /** From (4,5), only running leaps come to (13..16,5), and from there standing ones to (17,6) and (18..19,5). */
    private static LedgeLeaps threeBeyondAGap() {
        LedgeLeaps x = Levels.platforms(5, 13);
        Levels.build(x, 17, 5);
        x.put(4, 5);
        return x;
    }

    private static void onlyRunning(Sentences s) {
        s.section("Promise 22: onlyRunning");
        s.holds("Finds a ledge that only a running leap comes to.", "beyond a gap", () -> {
            LedgeLeaps x = Levels.platforms(5, 9);
            x.put(0, 5);
            Check.due("onlyRunning(0)", x.onlyRunning(0), 2);
            x.put(19, 5);
            Check.due("onlyRunning(0) from the other side", x.onlyRunning(0), 1);
        });
        s.holds("Finds a ledge that only a running leap comes to.", "each run-up from 1 to 3", () -> {
            int[] firsts = {8, 9, 13, 17};
            for (int runUp = 0; runUp <= 3; runUp++) {
                LedgeLeaps x = Levels.platforms(5, firsts[runUp]);
                x.put(4, 5);
                Check.due("onlyRunning(0) with the run-up " + runUp, x.onlyRunning(0), runUp == 0 ? NONE : 2);
            }
        });
        s.holds("Finds a ledge that only a running leap comes to.", "the first ledge", () -> {
            LedgeLeaps x = Levels.dividedGround();
            Levels.buildRow(x, 4, 13, 19);
            x.put(13, 5);
            // with the run-up 1: (11,6) (9,6) (7,5) (5,3) (3,0), and the ground; without: the wall (8,3)
            Check.due("slowest(3, 0)", x.slowest(3, 0), 1);
            Check.due("onlyRunning(0)", x.onlyRunning(0), 0);
        });
        s.holds("- `rank`: from 0", "the least and the greatest", () -> {
            LedgeLeaps x = threeBeyondAGap();
            Check.due("onlyRunning(0)", x.onlyRunning(0), 2);
            Check.due("onlyRunning(greatest)", x.onlyRunning(Integer.MAX_VALUE), NONE);
        });
        s.holds("Returns the ledge of this rank, by ascending numbers,", "three of them", () -> {
            LedgeLeaps x = threeBeyondAGap();
            for (int rank = 0; rank <= 2; rank++) {
                Check.due("onlyRunning(" + rank + ")", x.onlyRunning(rank), 2 + rank);
            }
        });
        String row = "to which one can come from that of the runner by leaps in a row, but not by leaps without run-up alone;";
        s.holds(row, "a running leap and a standing one behind it", () -> {
            LedgeLeaps x = threeBeyondAGap();
            Check.due("slowest(1, 4)", x.slowest(1, 4), NONE);
            Check.due("slowest(2, 4)", x.slowest(2, 4), 0);
            Check.due("onlyRunning(2)", x.onlyRunning(2), 4);
        });
        s.holds(row, "standing leaps in a row, though a running one does it, too", () -> {
            LedgeLeaps x = Levels.platforms(5, 12);
            Levels.build(x, 8, 4);
            x.put(4, 5);
            Check.due("slowest(1, 3)", x.slowest(1, 3), 1);
            Check.due("onlyRunning(0)", x.onlyRunning(0), NONE);
        });
        s.holds(row, "neither that of the runner itself nor one to which none comes", () -> {
            LedgeLeaps x = Levels.platforms(5, 9);
            Check.due("onlyRunning(0) on the ground", x.onlyRunning(0), NONE);
            LedgeLeaps y = Levels.tower();
            y.put(10, 5);
            Check.due("onlyRunning(0) on a tower", y.onlyRunning(0), NONE);
            Check.due("onlyRunning(0) of a full level", Levels.full().onlyRunning(0), NONE);
        });
    }

    private static void onlyRunningOfNone(Sentences s) {
        s.holds("NONE if there are not so many.", "none, and three", () -> {
            LedgeLeaps x = new LedgeLeaps();
            Check.due("onlyRunning(0) of a new object", x.onlyRunning(0), NONE);
            LedgeLeaps y = threeBeyondAGap();
            Check.due("onlyRunning(2)", y.onlyRunning(2), 4);
            Check.due("onlyRunning(3)", y.onlyRunning(3), NONE);
            Check.due("onlyRunning(4)", y.onlyRunning(4), NONE);
        });
        s.holds("Throws `IllegalArgumentException` if rank is below 0", "-1, and the least", () -> {
            LedgeLeaps x = threeBeyondAGap();
            Check.dueThrow(x, "onlyRunning(-1)", Check.ARGUMENT, () -> x.onlyRunning(-1));
            Check.dueThrow(x, "onlyRunning(least)", Check.ARGUMENT, () -> x.onlyRunning(Integer.MIN_VALUE));
        });
    }

    private static void share(Sentences s) {
        s.section("Promise 23: reachShare");
        s.holds("Returns how much can be come to.", "from the ground and from ledges", () -> {
            LedgeLeaps x = Levels.platforms(5, 13);
            Check.dueShare("reachShare() on the ground", x.reachShare(), 1.0 / 3);
            x.put(4, 5);
            Check.dueShare("reachShare() on a ledge", x.reachShare(), 1.0);
            x.undo();
            Check.dueShare("reachShare() on the ground again", x.reachShare(), 1.0 / 3);
        });
        String share = "Returns the ledges to which one can come from that of the runner, with this one, as a double, divided by "
            + "all ledges.";
        s.holds(share, "one ledge alone", () -> {
            Check.dueShare("reachShare() of a new object", new LedgeLeaps().reachShare(), 1.0);
            Check.dueShare("reachShare() of a full level", Levels.full().reachShare(), 1.0);
        });
        s.holds(share, "with this one, and once, whether a leap comes back to it or not", () -> {
            LedgeLeaps x = Levels.tower();
            x.put(10, 5);
            Check.dueShare("reachShare() on a tower", x.reachShare(), 1.0);
            LedgeLeaps y = Levels.box();
            y.put(5, 0);
            Check.dueShare("reachShare() in a box", y.reachShare(), 1.0 / 6);
        });
        s.holds(share, "the least share", () -> {
            Check.dueShare("reachShare() of a level like a chessboard", Levels.chessboard().reachShare(), 1.0 / 100);
        });
        s.holds(share, "by leaps in a row, and running ones too", () -> {
            LedgeLeaps x = threeBeyondAGap();
            Levels.build(x, 9, 8);
            Check.dueShare("reachShare() with a ledge at the top", x.reachShare(), 5.0 / 6);
        });
    }
}

/** Which ledge can be come to from which. */
final class ReachTerms {
    private static final int NONE = LedgeLeaps.NONE;

    private ReachTerms() {
    }

    static void tell(Sentences s) {
        s.section("Reaches");
        oneLeap(s);
        runUps(s);
        fewest(s);
    }

    private static void oneLeap(Sentences s) {
        String one = "A ledge can be come to from another one, or itself, by one leap, if a leap from one of its cells, to "
            + "either side, ends in one of the cells of the other one.";
        s.holds(one, "by leaps to the right, and by leaps to the left", () -> {
            LedgeLeaps x = Levels.platforms(5, 8);
            Check.due("slowest(1, 2), to the right", x.slowest(1, 2), 0);
            Check.due("slowest(2, 1), to the left", x.slowest(2, 1), 0);
        });
        s.holds(one, "from one cell alone to one cell alone", () -> {
            // (5,6) (6,6) (7,5), then a step from (8,5) into the block: from (4,5) alone to (8,5) alone
            LedgeLeaps x = Levels.with(0, 4, 1, 4, 2, 4, 3, 4, 4, 4, 8, 4);
            x.set(0, 1);
            for (int column = 0; column <= 4; column++) {
                int end = 100 * x.ifLeapt(column, 5, 1, 0, 1) + x.ifLeapt(column, 5, 1, 0, 0);
                Check.holds("that a leap ends in (8,5) from (4,5) alone", end == 508 == (column == 4));
            }
            Check.due("slowest(1, 2)", x.slowest(1, 2), 0);
            x.build(4, 4);
            Check.due("slowest(1, 2) without this cell", x.slowest(1, 2), NONE);
        });
        s.holds(one, "to the first and to the last of its cells", () -> {
            LedgeLeaps x = Levels.with(8, 4);
            x.set(0, 1);
            Levels.buildRow(x, 4, 12, 14);
            Check.due("slowest(1, 2), the first", x.slowest(1, 2), 0);
            LedgeLeaps y = Levels.with(8, 4);
            y.set(0, 1);
            Levels.buildRow(y, 4, 10, 12);
            Check.due("slowest(1, 2), the last", y.slowest(1, 2), 0);
        });
        s.holds(one, "itself", () -> {
            Check.due("slowest(0, 0) of the ground", new LedgeLeaps().slowest(0, 0), 0);
            Check.due("slowest(1, 1) of a box", Levels.box().slowest(1, 1), 0);
            Check.due("slowest(1, 1) of a tower", Levels.tower().slowest(1, 1), NONE);
        });
        s.holds(one, "down, and not up again", () -> {
            LedgeLeaps x = Levels.tower();
            Check.due("slowest(1, 0)", x.slowest(1, 0), 0);
            Check.due("slowest(0, 1)", x.slowest(0, 1), NONE);
        });
    }

    private static void runUps(Sentences s) {
        String most = "(With a run-up of at most so much: only leaps with this run-up, or a lesser one, count.)";
        int[] firsts = {8, 9, 12, 13, 16, 17};
        int[] least = {0, 1, 1, 2, 2, 3};
        for (int i = 0; i < firsts.length; i++) {
            int first = firsts[i];
            int needed = least[i];
            s.holds(most, "a gap up to the column " + first + ", for which the run-up " + needed + " is needed", () -> {
                LedgeLeaps x = Levels.platforms(5, first);
                for (int runUp = 0; runUp <= 3; runUp++) {
                    Check.fewest(x, 1, 2, runUp, runUp < needed ? NONE : 1);
                }
            });
        }
        s.holds(most, "a lesser one, where there are no cells for this one", () -> {
            LedgeLeaps x = Levels.tower();
            for (int runUp = 0; runUp <= 3; runUp++) {
                Check.fewest(x, 1, 0, runUp, 1);
            }
        });
        s.holds(most, "fewer leaps by running ones", () -> {
            LedgeLeaps x = Levels.platforms(5, 12);
            Levels.build(x, 8, 4);
            // from (4,5) to (8,5), and from there to (12,5); or from (4,5) with the run-up 1
            Check.fewest(x, 1, 3, 0, 2);
            Check.fewest(x, 1, 3, 1, 1);
            Check.fewest(x, 1, 3, 3, 1);
        });
    }

    private static void fewest(Sentences s) {
        String fewest = "The fewest leaps from a ledge to another one are the fewest by which one comes there, walking along "
            + "ledges between them at will; 0 for itself.";
        s.holds(fewest, "a chain of ledges, each three rows above the one before", () -> {
            LedgeLeaps x = Levels.with(4, 2, 5, 2, 9, 5, 10, 5, 14, 8, 15, 8);
            for (int from = 0; from < 4; from++) {
                for (int to = from; to < 4; to++) {
                    Check.fewest(x, from, to, 3, to - from);
                }
                Check.fewest(x, from, 0, 3, from == 0 ? 0 : 1);
            }
        });
        s.holds(fewest, "a walk between two leaps", () -> {
            // from (1,5) down to (7,0) or (8,0), and from (14,0) up to (19,2)
            LedgeLeaps x = Levels.with(0, 4, 1, 4, 18, 1, 19, 1);
            Check.fewest(x, 2, 1, 0, 2);
            Check.due("slowest(2, 1)", x.slowest(2, 1), NONE);
        });
        s.holds(fewest, "itself, also if no leap comes to it", () -> {
            Check.fewest(Levels.tower(), 1, 1, 0, 0);
            Check.fewest(Levels.tower(), 1, 1, 3, 0);
            Check.fewest(Levels.box(), 1, 1, 3, 0);
            Check.fewest(new LedgeLeaps(), 0, 0, 3, 0);
        });
        s.holds(fewest, "none", () -> {
            Check.fewest(Levels.tower(), 0, 1, 3, NONE);
            Check.fewest(Levels.box(), 1, 0, 3, NONE);
            Check.fewest(Levels.box(), 0, 1, 3, NONE);
        });
    }
}

/** What a leap is, from where it goes to how it ends, and what an arc is. */
final class LeapTerms {
    private LeapTerms() {
    }

    static void tell(Sentences s) {
        s.section("Leaps");
        beginnings(s);
        runUps(s);
        speeds(s);
        stepsAside(s);
        stepsUp(s);
        stepsDown(s);
        stepsAlongAWall(s);
        ends(s);
        rises(s);
        endsOfAll(s);
        arcs(s);
    }

    private static final String FROM = "A leap goes from a cell in which one can stand, to a side, 1 (right) or -1 (left), "
        + "with a run-up, 0 to 3: as many cells ahead of it (on the other side), side by side, are needed in which one can "
        + "stand, too.";

    private static void beginnings(Sentences s) {
        s.holds(FROM, "to the right and to the left", () -> {
            LedgeLeaps x = new LedgeLeaps();
            Check.leapt(x, "9 0 1 0", 15, 0, 6, 3, 0);
            Check.leapt(x, "9 0 -1 0", 3, 0, 6, 3, 0);
        });
        s.holds(FROM, "from air, and from a block", () -> {
            LedgeLeaps x = Levels.with(7, 0);
            Check.notLeapt(x, "5 5 1 0");
            Check.notLeapt(x, "5 1 -1 0");
            Check.notLeapt(x, "7 0 1 0");
            Check.notLeapt(x, "7 0 -1 0");
        });
        s.holds(FROM, "neither more nor less than the sides 1 and -1, and the run-ups 0 to 3", () -> {
            LedgeLeaps x = new LedgeLeaps();
            Check.dueThrow(x, "ifLeapt(9, 0, 0, 0, 0)", Check.ARGUMENT, () -> x.ifLeapt(9, 0, 0, 0, 0));
            Check.dueThrow(x, "ifLeapt(9, 0, 2, 0, 0)", Check.ARGUMENT, () -> x.ifLeapt(9, 0, 2, 0, 0));
            Check.dueThrow(x, "ifLeapt(9, 0, -2, 0, 0)", Check.ARGUMENT, () -> x.ifLeapt(9, 0, -2, 0, 0));
            Check.dueThrow(x, "ifLeapt(9, 0, 1, -1, 0)", Check.ARGUMENT, () -> x.ifLeapt(9, 0, 1, -1, 0));
            Check.dueThrow(x, "ifLeapt(9, 0, 1, 4, 0)", Check.ARGUMENT, () -> x.ifLeapt(9, 0, 1, 4, 0));
        });
    }

    private static void dueGreatest(LedgeLeaps x, int column, int row, int right, int left) {
        for (int runUp = 0; runUp <= 3; runUp++) {
            String with = " with the run-up " + runUp;
            Check.holds("a leap to the right from " + column + ", " + row + with + (runUp <= right ? "" : " not"),
                x.ifLeapt(column, row, 1, runUp, 0) != LedgeLeaps.NONE == runUp <= right);
            Check.holds("a leap to the left from " + column + ", " + row + with + (runUp <= left ? "" : " not"),
                x.ifLeapt(column, row, -1, runUp, 0) != LedgeLeaps.NONE == runUp <= left);
        }
    }

    private static void runUps(Sentences s) {
        s.holds(FROM, "just enough cells and one too few, to the right", () -> {
            LedgeLeaps x = new LedgeLeaps();
            for (int column = 0; column <= 4; column++) {
                dueGreatest(x, column, 0, Math.min(3, column), 3);
            }
        });
        s.holds(FROM, "just enough cells and one too few, to the left", () -> {
            LedgeLeaps x = new LedgeLeaps();
            for (int column = 15; column <= 19; column++) {
                dueGreatest(x, column, 0, 3, Math.min(3, 19 - column));
            }
        });
        s.holds(FROM, "the cells are beyond a block, not side by side", () -> {
            LedgeLeaps x = Levels.with(8, 0, 12, 0);
            dueGreatest(x, 9, 0, 0, 2);
            dueGreatest(x, 10, 0, 1, 1);
            dueGreatest(x, 11, 0, 2, 0);
            dueGreatest(x, 7, 0, 3, 0);
            dueGreatest(x, 13, 0, 0, 3);
        });
        s.holds(FROM, "the cells are above air", () -> {
            LedgeLeaps x = Levels.with(5, 4, 6, 4, 8, 4, 9, 4);
            dueGreatest(x, 5, 5, 0, 1);
            dueGreatest(x, 6, 5, 1, 0);
            dueGreatest(x, 8, 5, 0, 1);
            dueGreatest(x, 9, 5, 1, 0);
        });
        s.holds(FROM, "a cell alone: without run-up only", () -> dueGreatest(Levels.with(7, 3), 7, 4, 0, 0));
        s.holds(FROM, "the cells of another row are of no use", () -> dueGreatest(Levels.with(7, 0), 7, 1, 0, 0));
    }

    private static void speeds(Sentences s) {
        String speed = "Its speed is the run-up and 1; its rise at first is setting 0.";
        s.holds(speed, "each run-up, with the least rise", () -> {
            LedgeLeaps x = new LedgeLeaps();
            x.set(0, 1);
            // the rows 1 1 0, and the ground in the fourth tick
            for (int runUp = 0; runUp <= 3; runUp++) {
                Check.leapt(x, "3 0 1 " + runUp, 3 + 4 * (runUp + 1), 0, 4, 1, 0);
                Check.leapt(x, "16 0 -1 " + runUp, 16 - 4 * (runUp + 1), 0, 4, 1, 0);
            }
        });
        s.holds(speed, "each rise at first", () -> {
            LedgeLeaps x = new LedgeLeaps();
            int[] tops = {1, 3, 6, 9};
            for (int rise = 1; rise <= 4; rise++) {
                x.set(0, rise);
                Check.due("the greatest row with the rise " + rise, x.ifLeapt(5, 0, 1, 0, 3), tops[rise - 1]);
            }
        });
        s.holds("A leap goes by ticks.", "how many", () -> Check.leapt(new LedgeLeaps(), "5 0 1 0", 11, 0, 6, 3, 0));
    }

    private static void stepsAside(Sentences s) {
        String aside = "In each tick: first as many steps to the side as its speed, each to the next cell, as long as that "
            + "is no block; if one is, the speed is 0 from then on, and the wall is met.";
        s.holds(aside, "no block: all steps in each tick, also in the one in which it ends", () -> {
            LedgeLeaps x = new LedgeLeaps();
            Check.leapt(x, "1 0 1 1", 13, 0, 6, 3, 0);
            Check.leapt(x, "18 0 -1 1", 6, 0, 6, 3, 0);
        });
        s.holds(aside, "the wall at the first step", () -> {
            // it comes above the block, but stays beside it
            Check.leapt(Levels.with(6, 0), "5 0 1 0", 5, 0, 7, 3, 1);
            Check.leapt(Levels.with(6, 0), "5 0 1 3", 5, 0, 7, 3, 1);
        });
        s.holds(aside, "the wall behind some of the steps of a tick", () -> {
            Check.leapt(Levels.with(8, 0), "6 0 1 2", 7, 0, 7, 3, 1);
            Check.leapt(Levels.with(9, 0), "6 0 1 2", 8, 0, 7, 3, 1);
            Check.leapt(Levels.with(5, 0), "8 0 -1 3", 6, 0, 7, 3, 1);
        });
        s.holds(aside, "a block just behind the last step of a tick, above which the next one goes", () -> {
            Check.leapt(Levels.with(10, 0), "6 0 1 2", 19, 0, 7, 3, 1);
            Check.leapt(Levels.with(7, 0), "5 0 1 0", 11, 0, 6, 3, 0);
        });
        s.holds(aside, "the wall at the edge, just met and just not", () -> {
            LedgeLeaps x = new LedgeLeaps();
            Check.leapt(x, "13 0 1 0", 19, 0, 6, 3, 0);
            Check.leapt(x, "14 0 1 0", 19, 0, 6, 3, 1);
            Check.leapt(x, "6 0 -1 0", 0, 0, 6, 3, 0);
            Check.leapt(x, "5 0 -1 0", 0, 0, 6, 3, 1);
        });
        s.holds(aside, "the wall in the fall alone", () -> {
            // (3,2) (4,3) (5,3) (6,2) (7,0), and the wall in the tick in which it ends
            Check.leapt(Levels.with(8, 0), "2 0 1 0", 7, 0, 6, 3, 1);
        });
        s.holds(aside, "first to the side: what is above the cell from which it goes is no matter", () -> {
            Check.leapt(Levels.with(5, 1), "5 0 1 0", 11, 0, 6, 3, 0);
            Check.leapt(Levels.with(5, 2), "5 0 -1 0", 0, 0, 6, 3, 1);
        });
        s.holds(aside, "a block in the next cell of the row, not in that above or below it", () -> {
            // (6,2) and (7,3); neither (7,1) nor (7,4) is a wall, and (7,2) is one
            Check.leapt(Levels.with(7, 1), "5 0 1 0", 11, 0, 6, 3, 0);
            Check.leapt(Levels.with(7, 4), "5 0 1 0", 11, 0, 6, 3, 0);
            Check.leapt(Levels.with(7, 2), "5 0 1 0", 6, 0, 7, 3, 1);
        });
    }

    private static void stepsUp(Sentences s) {
        String up = "Then, if the rise is above 0, as many steps up, each to the next cell, as long as that is no block; if "
            + "one is, no more steps are made, and the rise is 0.";
        s.holds(up, "no block: all steps", () -> Check.leapt(new LedgeLeaps(), "5 0 1 0", 11, 0, 6, 3, 0));
        s.holds(up, "the head at the first step", () -> {
            // (6,0) and the head, (7,0) and the ground
            Check.leapt(Levels.with(6, 1), "5 0 1 0", 7, 0, 2, 0, 0);
        });
        s.holds(up, "the head behind some steps", () -> {
            // (6,1) and the head, (7,0), (8,0) and the ground
            Check.leapt(Levels.with(6, 2), "5 0 1 0", 8, 0, 3, 1, 0);
        });
        s.holds(up, "a block just above the last step", () -> {
            Check.leapt(Levels.with(6, 3), "5 0 1 0", 11, 0, 6, 3, 0);
            // above the second tick's one step
            Check.leapt(Levels.with(7, 4), "5 0 1 0", 11, 0, 6, 3, 0);
        });
        s.holds(up, "the head in the second tick", () -> {
            // (6,2), (7,2) and the head, (8,1), (9,0) by one step and the ground
            Check.leapt(Levels.with(7, 3), "5 0 1 0", 9, 0, 4, 2, 0);
        });
        s.holds(up, "the head at the wall, and the wall behind the head", () -> {
            // the wall and the head in the first tick, and the ground in the second one
            Check.leapt(Levels.with(6, 0, 5, 1), "5 0 1 0", 5, 0, 2, 0, 1);
            // (6,1) and the head, the wall and (6,0), the ground
            Check.leapt(Levels.with(6, 2, 7, 1), "5 0 1 0", 6, 0, 3, 1, 1);
        });
        s.holds(up, "if the rise is 0, no step up, and no head", () -> {
            // (8,3) with the rise 0, below a block
            Check.leapt(Levels.with(8, 4), "5 0 1 0", 11, 0, 6, 3, 0);
        });
    }

    private static void stepsDown(Sentences s) {
        String down = "If the rise is below 0, as many steps down, as long as the next cell is no block;";
        s.holds(down, "as many as the rise is below 0", () -> {
            // (10,9) the head; 8 6 3 0, and the ground
            Check.leapt(Levels.with(9, 8), "9 9 1 0", 15, 0, 6, 9, 0);
        });
        s.holds(down, "up to a block, behind some steps", () -> {
            // (9,2), then from (10,2) one step of two
            Check.leapt(Levels.with(10, 0), "5 0 1 0", 10, 1, 5, 3, 0);
        });
        s.holds(down, "up to a block, behind no step", () -> {
            Check.leapt(Levels.with(10, 1), "5 0 1 0", 10, 2, 5, 3, 0);
        });
        s.holds(down, "if the rise is 0, none: it goes on above a block", () -> {
            Check.leapt(Levels.with(8, 2), "5 0 1 0", 11, 0, 6, 3, 0);
        });
        s.holds(down, "if the rise is above 0, none: it goes on above a block", () -> {
            Check.leapt(Levels.with(6, 1), "4 0 1 0", 10, 0, 6, 3, 0);
        });
    }

    private static void stepsAlongAWall(Sentences s) {
        String slide = "but if the wall was met, in this tick or ahead of it, at most setting 2 steps.";
        s.holds(slide, "in this tick", () -> {
            // (16,2) (17,3) (18,3) (19,2), the wall and (19,1), (19,0), the ground
            Check.leapt(new LedgeLeaps(), "15 0 1 0", 19, 0, 7, 3, 1);
            Check.leapt(new LedgeLeaps(), "4 0 -1 0", 0, 0, 7, 3, 1);
        });
        s.holds(slide, "ahead of it", () -> {
            LedgeLeaps x = Levels.with(8, 0, 8, 1, 8, 2, 8, 3, 8, 4, 8, 5);
            // (6,2) (7,3), the wall, (7,2) (7,1) (7,0), the ground
            Check.leapt(x, "5 0 1 0", 7, 0, 7, 3, 1);
            x.set(2, 2);
            // (7,2) (7,0), the ground
            Check.leapt(x, "5 0 1 0", 7, 0, 6, 3, 1);
        });
        s.holds(slide, "also where no block is beside it any more", () -> {
            // the wall (6,0) is met in the row 0; from the row 3 down to 1 there is none
            Check.leapt(Levels.with(6, 0), "5 0 1 0", 5, 0, 7, 3, 1);
        });
        s.holds(slide, "no more than the rise, though setting 2 is greater", () -> {
            LedgeLeaps x = Levels.with(8, 0, 8, 1, 8, 2, 8, 3, 8, 4, 8, 5);
            x.set(2, 5);
            Check.leapt(x, "5 0 1 0", 7, 0, 6, 3, 1);
        });
        s.holds(slide, "no wall: more than setting 2", () -> {
            LedgeLeaps x = new LedgeLeaps();
            Check.leapt(x, "5 0 1 0", 11, 0, 6, 3, 0);
            x.set(2, 5);
            Check.leapt(x, "5 0 1 0", 11, 0, 6, 3, 0);
        });
        s.holds(slide, "the rise is less by each tick, also along a wall", () -> {
            LedgeLeaps x = Levels.with(2, 8);
            x.set(1, 5);
            x.set(2, 3);
            // the head, 8, then along the wall 2 of -2, 3 of -3, 3 of -4: the rows 6 3 0, and the ground
            Check.leapt(x, "2 9 -1 0", 0, 0, 6, 9, 1);
        });
    }

    private static void ends(Sentences s) {
        String ends = "The leap ends as soon as a step down that is to be made would go into a block.";
        s.holds(ends, "behind all steps down of a tick it does not end", () -> {
            // the row 0 at the end of the fifth tick, with a step to the side in the sixth
            Check.leapt(new LedgeLeaps(), "5 0 1 0", 11, 0, 6, 3, 0);
        });
        s.holds(ends, "behind some steps down of a tick it ends in it", () -> {
            LedgeLeaps x = new LedgeLeaps();
            x.set(1, 2);
            x.set(0, 3);
            // the rows 3 5 6 6 5 3 1, and one step of two
            Check.leapt(x, "5 0 1 0", 13, 0, 8, 6, 0);
        });
        s.holds(ends, "steps that are not to be made, along a wall, do not end it", () -> {
            // the row 0 by the one step of the sixth tick, though the rise is -3
            Check.leapt(new LedgeLeaps(), "15 0 1 0", 19, 0, 7, 3, 1);
        });
        s.holds(ends, "above a block of a ledge", () -> {
            // (6,2) (7,3) (8,3) (9,2), then a step from (10,2) into the block
            Check.leapt(Levels.with(9, 1, 10, 1), "5 0 1 0", 10, 2, 5, 3, 0);
            // it comes to (9,2) by the step of the fourth tick, and goes on beyond the ledge
            Check.leapt(Levels.with(9, 1), "5 0 1 0", 11, 0, 6, 3, 0);
        });
        s.holds(ends, "in the second tick, which is the soonest", () -> {
            Check.leapt(Levels.with(6, 1), "5 0 1 0", 7, 0, 2, 0, 0);
        });
        s.holds(ends, "in the cell from which it goes", () -> Check.leapt(Levels.box(), "5 0 1 0", 5, 0, 2, 0, 1));
        s.holds(ends, "in the row at the top", () -> {
            LedgeLeaps x = Levels.with(15, 5, 19, 8);
            // (16,8) (17,9) (18,9), then a step from (19,9) into the block
            Check.leapt(x, "15 6 1 0", 19, 9, 4, 9, 0);
        });
    }

    private static void rises(Sentences s) {
        String less = "Behind the tick the rise is 1 less, but at least 0 less setting 1.";
        s.holds(less, "the least fall", () -> {
            LedgeLeaps x = new LedgeLeaps();
            x.set(0, 3);
            x.set(1, 1);
            // the rows 3 5 6 6, then six times one down, and the ground
            Check.leapt(x, "5 0 1 0", 16, 0, 11, 6, 0);
        });
        s.holds(less, "the fall at first", () -> {
            LedgeLeaps x = new LedgeLeaps();
            x.set(0, 4);
            // the rows 4 7 9, the head, 8 6 3 0, and the ground
            Check.leapt(x, "5 0 1 0", 14, 0, 9, 9, 0);
        });
        s.holds(less, "the greatest fall, and just not as great", () -> {
            LedgeLeaps x = Levels.with(2, 8);
            x.set(1, 4);
            // the head, 8 6 3, and three steps of -4
            Check.leapt(x, "2 9 1 0", 7, 0, 5, 9, 0);
            x.set(1, 2);
            // the head, 8 6 4 2 0, and the ground
            Check.leapt(x, "2 9 1 0", 9, 0, 7, 9, 0);
        });
        s.holds(less, "behind a head the rise goes on from 0", () -> {
            Check.leapt(Levels.with(6, 2), "5 0 1 0", 8, 0, 3, 1, 0);
        });
    }

    private static void endsOfAll(Sentences s) {
        s.holds("(So it always ends, in a cell in which one can stand.)", "many leaps in many levels", () -> {
            for (int seed = 0; seed < 60; seed++) {
                LedgeLeaps x = Levels.scattered(seed, seed * 3);
                x.set(0, 1 + seed % 4);
                x.set(1, 1 + seed % 5);
                x.set(2, 1 + seed / 5 % 5);
                for (int i = 0; i < 120; i++) {
                    int end = x.leap(i % 3 == 0 ? 1 : -1, i % 4);
                    if (end != LedgeLeaps.NONE) {
                        Check.due("cellOf where the leap ends in the level " + seed, x.cellOf(end % 100, end / 100, 1), 1);
                    }
                }
            }
        });
        s.holds("(So it always ends, in a cell in which one can stand.)", "a level without room", () -> {
            LedgeLeaps x = Levels.full();
            for (int i = 0; i < 2; i++) {
                Check.leapt(x, "0 0 1 0", 0, 0, 2, 0, 1);
                Check.leapt(x, "0 0 -1 0", 0, 0, 2, 0, 1);
                x.set(0, 4);
                x.set(2, 5);
            }
        });
    }

    private static void arcs(Sentences s) {
        s.section("Arcs");
        String arc = "The height of an arc behind some ticks is what the rises of these ticks are together, if no block is "
            + "met, as if there were no ground.";
        s.holds(arc, "up and down again", () -> {
            LedgeLeaps x = new LedgeLeaps();
            // the rises 2 1 0 -1 -2 -3 -3 -3
            int[] heights = {0, 2, 3, 3, 2, 0, -3, -6, -9};
            for (int ticks = 0; ticks < heights.length; ticks++) {
                Check.due("arc(" + ticks + ", 0)", x.arc(ticks, 0), 200 + heights[ticks]);
                Check.due("arc(" + ticks + ", 1)", x.arc(ticks, 1), 200 + heights[ticks]);
            }
        });
        s.holds(arc, "whatever blocks there are, and wherever the runner is", () -> {
            LedgeLeaps x = Levels.full();
            Check.due("arc(3, 0) among blocks", x.arc(3, 0), 203);
            Check.due("arc(3, 1) among blocks", x.arc(3, 1), 203);
            LedgeLeaps y = Levels.with(5, 8);
            y.put(5, 9);
            Check.due("arc(3, 0) below the top", y.arc(3, 0), 203);
            Check.due("arc(3, 1) below the top", y.arc(3, 1), 203);
        });
        s.holds(arc, "farther down than the level is high", () -> {
            LedgeLeaps x = new LedgeLeaps();
            Check.due("arc(30, 0)", x.arc(30, 0), 125);
            Check.due("arc(30, 1)", x.arc(30, 1), 125);
        });
        s.holds(arc, "farther up than the level is high", () -> {
            LedgeLeaps x = new LedgeLeaps();
            x.set(0, 4);
            Check.due("arc(4, 0)", x.arc(4, 0), 210);
            Check.due("arc(4, 1)", x.arc(4, 1), 210);
        });
    }
}

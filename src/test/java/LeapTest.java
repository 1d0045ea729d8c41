/** Promise 19, and with it what a leap is. */
public final class LeapTest {
    public static void main(String[] args) {
        overFlatGround();
        landsOnALedge();
        headMeetsABlock();
        headMeetsTheTop();
        slidesAlongAWall();
        wallStopsForGood();
        withOtherSettings();
        isNotPossible();
        wrongInputs();
        Check.end();
    }

    private static void due(LedgeLeaps x, String leap, int... numbers) {
        String[] parts = leap.split(" ");
        int[] a = new int[4];
        for (int i = 0; i < 4; i++) {
            a[i] = Integer.parseInt(parts[i]);
        }
        for (int what = 0; what < 5; what++) {
            Check.due("ifLeapt(" + leap + " " + what + ")", x.ifLeapt(a[0], a[1], a[2], a[3], what), numbers[what]);
        }
    }

    private static void overFlatGround() {
        LedgeLeaps x = new LedgeLeaps();
        long before = x.digest();
        // rises 2, 1, 0, -1, -2; in the sixth tick the ground is met
        due(x, "5 0 1 0", 11, 0, 6, 3, 0);
        due(x, "5 0 1 1", 17, 0, 6, 3, 0);
        due(x, "15 0 -1 0", 9, 0, 6, 3, 0);
        due(x, "15 0 -1 1", 3, 0, 6, 3, 0);
        due(x, "0 0 1 0", 6, 0, 6, 3, 0);
        due(x, "19 0 -1 0", 13, 0, 6, 3, 0);
        // to the cell beside the edge without a wall, and one cell further
        due(x, "13 0 1 0", 19, 0, 6, 3, 0);
        due(x, "14 0 1 0", 19, 0, 6, 3, 1);
        due(x, "15 0 1 0", 19, 0, 7, 3, 1);
        Check.due("digest() behind ifLeapt", x.digest(), before);
    }

    private static void landsOnALedge() {
        LedgeLeaps x = new LedgeLeaps();
        Check.builds(x, 9, 1, 10, 1);
        // (6,2) (7,3) (8,3) (9,2), then a step from (10,2) into the block below
        due(x, "5 0 1 0", 10, 2, 5, 3, 0);
        // it begins at the row 2, and comes to 5
        due(x, "10 2 1 0", 16, 0, 6, 5, 0);
        // run-up from (9,2): (12,4) (14,5) (16,5) (18,4) then at the wall (19,3) to (19,0)
        due(x, "10 2 1 1", 19, 0, 9, 5, 1);
    }

    private static void headMeetsABlock() {
        LedgeLeaps x = new LedgeLeaps();
        Check.builds(x, 6, 2);
        // (6,1) and the head; the rise is -1 then: (7,0), and the ground in the third tick
        due(x, "5 0 1 0", 8, 0, 3, 1, 0);
        LedgeLeaps y = new LedgeLeaps();
        Check.builds(y, 6, 1);
        due(y, "5 0 1 0", 7, 0, 2, 0, 0);
    }

    private static void headMeetsTheTop() {
        LedgeLeaps x = new LedgeLeaps();
        Check.builds(x, 5, 8);
        // (6,9) (7,8) (8,6) (9,3) (10,0) (11,0)
        due(x, "5 9 1 0", 11, 0, 6, 9, 0);
        // the same to the other side, and the wall in the tick in which it ends
        due(x, "5 9 -1 0", 0, 0, 6, 9, 1);
    }

    private static void slidesAlongAWall() {
        LedgeLeaps x = new LedgeLeaps();
        Check.builds(x, 8, 0, 8, 1, 8, 2, 8, 3, 8, 4, 8, 5);
        // (6,2) (7,3), the wall, (7,2) (7,1) (7,0), the ground
        due(x, "5 0 1 0", 7, 0, 7, 3, 1);
        x.set(2, 2);
        due(x, "5 0 1 0", 7, 0, 6, 3, 1);
        x.set(2, 5);
        due(x, "5 0 1 0", 7, 0, 6, 3, 1);
    }

    private static void wallStopsForGood() {
        LedgeLeaps x = new LedgeLeaps();
        Check.builds(x, 6, 0);
        // it comes above the block, but its speed is 0 from then on
        due(x, "5 0 1 0", 5, 0, 7, 3, 1);
        due(x, "5 0 1 3", 5, 0, 7, 3, 1);
        LedgeLeaps y = new LedgeLeaps();
        Check.builds(y, 8, 0);
        // with speed 3: one step, and the wall in the second one of the first tick
        due(y, "6 0 1 2", 7, 0, 7, 3, 1);
        // the wall is met in the fall alone: (3,2) (4,3) (5,3) (6,2) (7,0), the wall
        due(y, "2 0 1 0", 7, 0, 6, 3, 1);
    }

    private static void withOtherSettings() {
        LedgeLeaps x = new LedgeLeaps();
        x.set(0, 1);
        // (6,1) (7,1) (8,0) (9,0)
        due(x, "5 0 1 0", 9, 0, 4, 1, 0);
        x.set(0, 3);
        x.set(1, 1);
        // rises 3, 2, 1, 0, then six times -1, and the ground
        due(x, "5 0 1 0", 16, 0, 11, 6, 0);
        x.set(0, 4);
        x.set(1, 5);
        // rises 4, 3, 2 to the row 9, the top at the fourth tick, then -1 -2 -3 and three of -4
        due(x, "0 0 1 0", 8, 0, 8, 9, 0);
    }

    private static void isNotPossible() {
        LedgeLeaps x = new LedgeLeaps();
        Check.builds(x, 7, 0);
        due(x, "5 5 1 0", -1, -1, -1, -1, -1);
        due(x, "7 0 1 0", -1, -1, -1, -1, -1);
        due(x, "0 0 1 1", -1, -1, -1, -1, -1);
        due(x, "2 0 1 3", -1, -1, -1, -1, -1);
        due(x, "19 0 -1 1", -1, -1, -1, -1, -1);
        due(x, "7 1 1 1", -1, -1, -1, -1, -1);
        due(x, "9 0 1 2", -1, -1, -1, -1, -1);
        Check.counts(x, "behind leaps that are not possible", 7, 0, 5, 0);
    }

    private static void wrongInputs() {
        LedgeLeaps x = new LedgeLeaps();
        Class<?> index = IndexOutOfBoundsException.class;
        Class<?> argument = IllegalArgumentException.class;
        for (int column : new int[] {-1, 20, Integer.MIN_VALUE, Integer.MAX_VALUE}) {
            Check.dueThrow(x, "ifLeapt(" + column + ", 0, 1, 0, 0)", index, () -> x.ifLeapt(column, 0, 1, 0, 0));
            Check.dueThrow(x, "ifLeapt(" + column + ", 0, 0, 4, 5)", index, () -> x.ifLeapt(column, 0, 0, 4, 5));
        }
        for (int row : new int[] {-1, 10, Integer.MIN_VALUE, Integer.MAX_VALUE}) {
            Check.dueThrow(x, "ifLeapt(0, " + row + ", 1, 0, 0)", index, () -> x.ifLeapt(0, row, 1, 0, 0));
        }
        for (int side : new int[] {0, 2, -2, Integer.MIN_VALUE, Integer.MAX_VALUE}) {
            Check.dueThrow(x, "ifLeapt(0, 0, " + side + ", 0, 0)", argument, () -> x.ifLeapt(0, 0, side, 0, 0));
        }
        for (int runUp : new int[] {-1, 4, Integer.MIN_VALUE, Integer.MAX_VALUE}) {
            Check.dueThrow(x, "ifLeapt(9, 0, 1, " + runUp + ", 0)", argument, () -> x.ifLeapt(9, 0, 1, runUp, 0));
            Check.dueThrow(x, "ifLeapt(9, 5, 1, " + runUp + ", 0)", argument, () -> x.ifLeapt(9, 5, 1, runUp, 0));
        }
        for (int what : new int[] {-1, 5, Integer.MIN_VALUE, Integer.MAX_VALUE}) {
            Check.dueThrow(x, "ifLeapt(9, 0, 1, 0, " + what + ")", argument, () -> x.ifLeapt(9, 0, 1, 0, what));
            Check.dueThrow(x, "ifLeapt(9, 5, 1, 0, " + what + ")", argument, () -> x.ifLeapt(9, 5, 1, 0, what));
        }
    }
}

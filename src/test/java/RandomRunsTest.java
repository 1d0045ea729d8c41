/** Runs of 512 calls, drawn by a written-out generator, on an object and on the oracle. */
public final class RandomRunsTest {
    private static final int RUNS = 400;
    private static final int CALLS = 512;

    private interface Call {
        long answer();
    }

    private final LedgeLeaps x = new LedgeLeaps();
    private final Oracle o = new Oracle();
    private final int run;
    private long seed;
    private int calls;

    private RandomRunsTest(int run) {
        this.run = run;
        seed = 77777L * run + 12345L;
    }

    public static void main(String[] args) {
        Check.mustEnd();
        for (int run = 0; run < RUNS; run++) {
            new RandomRunsTest(run).play();
        }
        Check.end();
    }

    private int draw(int least, int greatest) {
        seed = seed * 6364136223846793005L + 1442695040888963407L;
        return least + (int) ((seed >>> 33) % (greatest - least + 1));
    }

    /** Mostly in range, and now and then just beside it. */
    private int near(int least, int greatest) {
        return draw(0, 60) == 0 ? draw(0, 1) == 0 ? least - 1 : greatest + 1 : draw(least, greatest);
    }

    private int side() {
        return draw(0, 60) == 0 ? 0 : draw(0, 1) * 2 - 1;
    }

    private int ledge() {
        return near(0, o.count(1) - 1);
    }

    private static String told(Call call) {
        try {
            return Long.toString(call.answer());
        } catch (RuntimeException e) {
            return e.getClass().getSimpleName();
        }
    }

    private void same(String name, Call of, Call due) {
        if (calls < CALLS) {
            calls++;
            Check.dueText("run " + run + ", call " + calls + ": " + name, told(of), told(due));
        }
    }

    /** Some runs have levels with few blocks, and some have levels with many. */
    private void play() {
        int blocks = draw(0, 3) * draw(0, 50);
        for (int i = 0; i < blocks; i++) {
            build(draw(0, 19), draw(0, 9));
        }
        while (calls < CALLS - 1) {
            if (draw(0, 1) == 0) {
                change();
            } else {
                look();
            }
        }
        same("digest()", () -> x.digest(), () -> o.digest());
    }

    private void build(int column, int row) {
        same("build(" + column + ", " + row + ")", () -> x.build(column, row), () -> o.build(column, row));
    }

    private void put(int column, int row) {
        same("put(" + column + ", " + row + ")", () -> x.put(column, row), () -> o.put(column, row));
    }

    private void append(int code) {
        same("append(" + code + ")", () -> x.append(code), () -> o.append(code));
    }

    private void change() {
        int side = side();
        int small = near(0, 3);
        int value = near(1, 5);
        int slot = near(0, 1);
        switch (draw(0, 12)) {
            case 0 -> build(near(0, 19), near(0, 9));
            case 1 -> build(o.count(2), Math.max(0, o.count(3) - draw(0, 1)));
            case 2 -> same("set(" + small + ", " + value + ")", () -> x.set(small, value), () -> o.set(small, value));
            case 3 -> same("walk(" + side + ")", () -> x.walk(side), () -> o.walk(side));
            case 4, 5 -> same("leap(" + side + ", " + small + ")", () -> x.leap(side, small), () -> o.leap(side, small));
            case 6 -> put(near(0, 19), near(0, 9));
            case 7 -> putOnALedge();
            case 8, 9 -> typeOrders();
            case 10 -> same("keep(" + slot + ")", () -> x.keep(slot), () -> o.keep(slot));
            case 11 -> same("goBack(" + slot + ")", () -> x.goBack(slot), () -> o.goBack(slot));
            default -> same("undo()", () -> x.undo(), () -> o.undo());
        }
    }

    private void putOnALedge() {
        int ledge = draw(0, o.count(1) - 1);
        put(o.ledgeOf(ledge, 1) + draw(0, o.ledgeOf(ledge, 2) - 1), o.ledgeOf(ledge, 0));
    }

    private void typeOrders() {
        if (draw(0, 1) == 0) {
            same("clearBuffer()", () -> x.clearBuffer(), () -> o.clearBuffer());
        }
        int orders = draw(0, 4);
        for (int i = 0; i <= orders; i++) {
            type((i == 0 ? "" : ";") + order());
        }
        same("firstError()", () -> x.firstError(), () -> o.firstError());
        if (draw(0, 4) > 0) {
            same("run()", () -> x.run(), () -> o.run());
        }
    }

    private String order() {
        String sign = draw(0, 1) == 0 ? "+" : "-";
        return switch (draw(0, 2)) {
            case 0 -> "b" + near(0, 19) + "," + near(0, 9);
            case 1 -> "w" + sign;
            default -> "l" + sign + near(0, 3);
        };
    }

    private void type(String text) {
        for (char c : text.toCharArray()) {
            append(draw(0, 80) == 0 ? near(33, 126) : c);
        }
    }

    private void look() {
        int c = near(0, 19);
        int r = near(0, 9);
        int side = side();
        int runUp = near(0, 3);
        int from = ledge();
        int to = ledge();
        int ticks = near(0, 30);
        int two = near(0, 1);
        int three = near(0, 2);
        int five = near(0, 4);
        int six = near(0, 5);
        int ten = near(0, 9);
        switch (draw(0, 12)) {
            case 0 -> same("cellOf(" + c + ", " + r + ", " + five + ")",
                () -> x.cellOf(c, r, five), () -> o.cellOf(c, r, five));
            case 1, 2 -> same("ledgeOf(" + from + ", " + six + ")", () -> x.ledgeOf(from, six), () -> o.ledgeOf(from, six));
            case 3, 4 -> same("count(" + ten + ")", () -> x.count(ten), () -> o.count(ten));
            case 5 -> same("setting(" + three + ")", () -> x.setting(three), () -> o.setting(three));
            case 6 -> same("arc(" + ticks + ", " + two + ")", () -> x.arc(ticks, two), () -> o.arc(ticks, two));
            case 7 -> same("ifLeapt(" + c + ", " + r + ", " + side + ", " + runUp + ", " + five + ")",
                () -> x.ifLeapt(c, r, side, runUp, five), () -> o.ifLeapt(c, r, side, runUp, five));
            case 8 -> same("slowest(" + from + ", " + to + ")", () -> x.slowest(from, to), () -> o.slowest(from, to));
            case 9 -> same("fewest(" + from + ", " + to + ", " + runUp + ", " + two + ")",
                () -> x.fewest(from, to, runUp, two), () -> o.fewest(from, to, runUp, two));
            case 10 -> same("onlyRunning(" + (ten - 1) + ")", () -> x.onlyRunning(ten - 1), () -> o.onlyRunning(ten - 1));
            case 11 -> same("reachShare()", () -> Double.doubleToLongBits(x.reachShare()),
                () -> Double.doubleToLongBits(o.reachShare()));
            default -> same("digest()", () -> x.digest(), () -> o.digest());
        }
    }
}

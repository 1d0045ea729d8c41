/** Promise 18. */
public final class ArcTest {
    public static void main(String[] args) {
        LedgeLeaps x = new LedgeLeaps();
        // rises 2, 1, 0, -1, -2, -3, -3, ..
        int[] due = {200, 202, 203, 203, 202, 200, 197, 194, 191};
        for (int ticks = 0; ticks < due.length; ticks++) {
            Check.due("arc(" + ticks + ", 0)", x.arc(ticks, 0), due[ticks]);
            Check.due("arc(" + ticks + ", 1)", x.arc(ticks, 1), due[ticks]);
        }
        Check.due("arc(30, 0)", x.arc(30, 0), 125);
        Check.due("arc(30, 1)", x.arc(30, 1), 125);
        x.build(0, 1);
        Check.due("arc(3, 0) below a block", x.arc(3, 0), 203);
        withAllSettings();
        for (int ticks : new int[] {-1, 31, Integer.MIN_VALUE, Integer.MAX_VALUE}) {
            Check.dueThrow(x, "arc(" + ticks + ", 0)", IllegalArgumentException.class, () -> x.arc(ticks, 0));
            Check.dueThrow(x, "arc(" + ticks + ", 1)", IllegalArgumentException.class, () -> x.arc(ticks, 1));
        }
        for (int what : new int[] {-1, 2, Integer.MIN_VALUE, Integer.MAX_VALUE}) {
            Check.dueThrow(x, "arc(0, " + what + ")", IllegalArgumentException.class, () -> x.arc(0, what));
        }
        Check.end();
    }

    private static void withAllSettings() {
        for (int rise = 1; rise <= 4; rise++) {
            for (int fall = 1; fall <= 5; fall++) {
                LedgeLeaps x = new LedgeLeaps();
                x.set(0, rise);
                x.set(1, fall);
                int height = 200;
                for (int ticks = 0; ticks <= 30; ticks++) {
                    String call = "arc(" + ticks + ", ..) with " + rise + ", " + fall;
                    Check.due(call, x.arc(ticks, 0), height);
                    Check.due(call, x.arc(ticks, 1), height);
                    height += rise - ticks < -fall ? -fall : rise - ticks;
                }
            }
        }
    }
}

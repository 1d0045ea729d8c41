import java.util.function.LongSupplier;

/** Counts the answers that are not due, and ends a test with exit code 1 if there was one. */
final class Check {
    static final Class<?> INDEX = IndexOutOfBoundsException.class;
    static final Class<?> ARGUMENT = IllegalArgumentException.class;
    static final Class<?> STATE = IllegalStateException.class;

    /** A call that does not end is found by it; all tests together take some seconds. */
    private static final long MOST_MILLISECONDS = 300_000;

    private static int wrong;
    private static volatile String place = "";

    private Check() {
    }

    /** What is found wrong from now on is told with this place. */
    static void at(String where) {
        place = where;
    }

    /** The test fails if it does not end: no call of the program may fail to. */
    static void mustEnd() {
        Thread watch = new Thread(() -> {
            try {
                Thread.sleep(MOST_MILLISECONDS);
            } catch (InterruptedException e) {
                return;
            }
            System.out.println(place + ": a call does not end");
            Runtime.getRuntime().halt(1);
        });
        watch.setDaemon(true);
        watch.start();
    }

    static void wrong(String told) {
        wrong++;
        System.out.println((place.isEmpty() ? "" : place + ": ") + told);
    }

    static int wrongSoFar() {
        return wrong;
    }

    static void due(String call, long got, long want) {
        if (got != want) {
            wrong(call + " answered " + got + ", due is " + want);
        }
    }

    static void dueShare(String call, double got, double want) {
        if (Double.doubleToLongBits(got) != Double.doubleToLongBits(want)) {
            wrong(call + " answered " + got + ", due is " + want);
        }
    }

    static void dueText(String what, String got, String want) {
        if (!got.equals(want)) {
            wrong(what + " is " + got + ", due is " + want);
        }
    }

    static void holds(String what, boolean that) {
        if (!that) {
            wrong(what + " does not hold");
        }
    }

    /** The call throws exactly this, and the object is as it was before. */
    static void dueThrow(LedgeLeaps x, String call, Class<?> kind, LongSupplier made) {
        long before = x.digest();
        String got = "nothing";
        try {
            made.getAsLong();
        } catch (RuntimeException e) {
            got = e.getClass().getSimpleName();
        }
        dueText("what " + call + " throws", got, kind.getSimpleName());
        due("digest() behind " + call + ", which throws,", x.digest(), before);
    }

    /** The numbers just below and just above a range, and those farthest from it. */
    static int[] outside(int least, int greatest) {
        return new int[] {least - 1, greatest + 1, Integer.MIN_VALUE, Integer.MAX_VALUE};
    }

    static void counts(LedgeLeaps x, String when, int... whatsAndNumbers) {
        for (int i = 0; i + 1 < whatsAndNumbers.length; i += 2) {
            due("count(" + whatsAndNumbers[i] + ") " + when, x.count(whatsAndNumbers[i]), whatsAndNumbers[i + 1]);
        }
    }

    static void settings(LedgeLeaps x, String when, int rise, int fall, int slide) {
        due("setting(0) " + when, x.setting(0), rise);
        due("setting(1) " + when, x.setting(1), fall);
        due("setting(2) " + when, x.setting(2), slide);
    }

    /** The leap "column row side runUp" is told with ifLeapt, from 0 to 4. */
    static void leapt(LedgeLeaps x, String leap, int column, int row, int ticks, int top, int wall) {
        int[] want = {column, row, ticks, top, wall};
        String[] parts = leap.split(" ");
        int[] a = new int[4];
        for (int i = 0; i < 4; i++) {
            a[i] = Integer.parseInt(parts[i]);
        }
        for (int what = 0; what < 5; what++) {
            due("ifLeapt(" + leap + " " + what + ")", x.ifLeapt(a[0], a[1], a[2], a[3], what), want[what]);
        }
    }

    static void notLeapt(LedgeLeaps x, String leap) {
        leapt(x, leap, LedgeLeaps.NONE, LedgeLeaps.NONE, LedgeLeaps.NONE, LedgeLeaps.NONE, LedgeLeaps.NONE);
    }

    static void fewest(LedgeLeaps x, int from, int to, int runUp, int want) {
        for (int what = 0; what <= 1; what++) {
            String call = "fewest(" + from + ", " + to + ", " + runUp + ", " + what + ")";
            due(call, x.fewest(from, to, runUp, what), want);
        }
    }

    static void type(LedgeLeaps x, String text) {
        for (int i = 0; i < text.length(); i++) {
            x.append(text.charAt(i));
        }
    }

    static void end() {
        System.out.println(wrong == 0 ? "all answers are as due" : wrong + " answers are not as due");
        if (wrong != 0) {
            System.exit(1);
        }
    }
}

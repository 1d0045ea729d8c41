/** Counts the answers that are not due, and ends a test with exit code 1 if there was one. */
final class Check {
    interface Call {
        long answer();
    }

    private static int wrong;

    private Check() {
    }

    static void due(String call, long got, long want) {
        if (got != want) {
            wrong++;
            System.out.println(call + " answered " + got + ", due is " + want);
        }
    }

    static void dueShare(String call, double got, double want) {
        if (Double.doubleToLongBits(got) != Double.doubleToLongBits(want)) {
            wrong++;
            System.out.println(call + " answered " + got + ", due is " + want);
        }
    }

    static void dueText(String what, String got, String want) {
        if (!got.equals(want)) {
            wrong++;
            System.out.println(what + " is " + got + ", due is " + want);
        }
    }

    /** The call throws exactly this, and the object is as it was before. */
    static void dueThrow(LedgeLeaps x, String call, Class<?> kind, Call made) {
        long before = x.digest();
        String got = "nothing";
        try {
            made.answer();
        } catch (RuntimeException e) {
            got = e.getClass().getSimpleName();
        }
        dueText(call + " throws, it", got, kind.getSimpleName());
        due("digest() behind " + call + ", which throws,", x.digest(), before);
    }

    static void builds(LedgeLeaps x, int... columnsAndRows) {
        for (int i = 0; i + 1 < columnsAndRows.length; i += 2) {
            int column = columnsAndRows[i];
            int row = columnsAndRows[i + 1];
            due("build(" + column + ", " + row + ")", x.build(column, row), 1);
        }
    }

    static void type(LedgeLeaps x, String text) {
        for (int i = 0; i < text.length(); i++) {
            x.append(text.charAt(i));
        }
    }

    static void counts(LedgeLeaps x, String when, int... whatsAndNumbers) {
        for (int i = 0; i + 1 < whatsAndNumbers.length; i += 2) {
            due("count(" + whatsAndNumbers[i] + ") " + when, x.count(whatsAndNumbers[i]), whatsAndNumbers[i + 1]);
        }
    }

    static void end() {
        System.out.println(wrong == 0 ? "all answers are as due" : wrong + " answers are not as due");
        if (wrong != 0) {
            System.exit(1);
        }
    }
}

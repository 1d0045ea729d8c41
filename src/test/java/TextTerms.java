/** The buffer, and which texts are orders. */
final class TextTerms {
    private static final String DIGITS = "0123456789";

    private TextTerms() {
    }

    static void tell(Sentences s) {
        s.section("Input text");
        length(s);
        orders(s);
        kinds(s);
        errors(s);
    }

    private static LedgeLeaps typed(String text) {
        LedgeLeaps x = new LedgeLeaps();
        Check.type(x, text);
        return x;
    }

    private static void dueError(String text, int place) {
        Check.due("firstError() of " + text, typed(text).firstError(), place);
    }

    private static void dueRun(String text, int done) {
        Check.due("run() of " + text, typed(text).run(), done);
    }

    private static void dueNoRun(String text) {
        LedgeLeaps x = typed(text);
        Check.dueThrow(x, "run() of " + text, Check.ARGUMENT, () -> x.run());
    }

    /** Of all characters that can be appended behind the text, just these are no error. */
    private static void dueNext(String text, String due) {
        for (int code = 33; code <= 126; code++) {
            int place = due.indexOf(code) >= 0 ? text.length() + 1 : text.length();
            dueError(text + (char) code, place);
        }
    }

    private static void length(Sentences s) {
        s.holds("The buffer has at most 60 characters.", "the 60th, and no 61st", () -> {
            LedgeLeaps x = new LedgeLeaps();
            for (int length = 1; length <= 60; length++) {
                Check.due("append(119)", x.append('w'), length);
            }
            Check.dueThrow(x, "append(119) to a full buffer", Check.STATE, () -> x.append('w'));
            Check.due("clearBuffer()", x.clearBuffer(), 60);
        });
    }

    private static void orders(Sentences s) {
        String many = "Orders as a text are one or more of these with \";\" between them:";
        s.holds(many, "none", () -> dueNoRun(""));
        s.holds(many, "one", () -> dueRun("w+", 1));
        s.holds(many, "two, and three", () -> {
            dueRun("w+;b5,5", 2);
            dueRun("b5,5;l+0;w-", 3);
        });
        s.holds(many, "as many as there is room for", () -> {
            dueRun("w+;w-;w+;w-;w+;w-;w+;w-;w+;w-;w+;w-;w+;w-;w+;w-;w+;w-;w+;l-0", 20);
        });
        s.holds(many, "\";\" at the beginning, at the end, or twice", () -> {
            dueNoRun(";");
            dueNoRun(";w+");
            dueNoRun("w+;");
            dueNoRun("w+;;w-");
            dueError(";w+", 0);
            dueError("w+;", 3);
            dueError("w+;;w-", 3);
        });
        s.holds(many, "no \";\" between them, or another character", () -> {
            dueNoRun("w+w-");
            dueNoRun("w+,w-");
            dueError("w+w-", 2);
            dueError("w+,w-", 2);
            dueError("l+0l", 3);
            dueError("b1,1b", 4);
        });
        s.holds(many, "what each order begins with", () -> {
            dueNext("", "bwl");
            dueNext("w+;", "bwl");
            dueNext("b1,1;", "bwl");
            dueNext("l-3;", "bwl");
        });
    }

    private static void kinds(Sentences s) {
        String build = "\"b\", a column, 0 to 19, \",\", and a row, 0 to 9 (a block is built or broken);";
        s.holds(build, "each column, and no greater one", () -> {
            for (int column = 0; column <= 19; column++) {
                dueError("b" + column + ",9", column > 9 ? 5 : 4);
                LedgeLeaps x = typed("b" + column + ",9");
                x.run();
                Check.due("cellOf(" + column + ", 9, 0)", x.cellOf(column, 9, 0), 1);
            }
            dueError("b20,9", 2);
            dueError("b29,9", 2);
            dueError("b99,9", 2);
            dueError("b190,9", 3);
            dueNoRun("b20,9");
        });
        s.holds(build, "each row, and no greater one", () -> {
            for (int row = 0; row <= 9; row++) {
                dueError("b7," + row, 4);
                LedgeLeaps x = typed("b7," + row);
                x.run();
                Check.due("cellOf(7, " + row + ", 0)", x.cellOf(7, row, 0), 1);
            }
            dueError("b7,10", 4);
            dueError("b7,99", 4);
            dueNoRun("b7,10");
        });
        s.holds(build, "what comes behind each of its characters", () -> {
            dueNext("b", DIGITS);
            dueNext("b0", ",");
            dueNext("b1", "," + DIGITS);
            for (int column = 2; column <= 19; column++) {
                dueNext("b" + column, ",");
            }
            dueNext("b7,", DIGITS);
            dueNext("b17,", DIGITS);
            dueNext("b7,9", ";");
            dueNext("b17,1", ";");
        });
        s.holds(build, "built, and broken by the next one", () -> {
            LedgeLeaps x = typed("b5,5;b6,6;b5,5");
            Check.due("run()", x.run(), 3);
            Check.due("cellOf(5, 5, 0)", x.cellOf(5, 5, 0), 0);
            Check.due("cellOf(6, 6, 0)", x.cellOf(6, 6, 0), 1);
        });
        s.holds(build, "a part of it is no order", () -> {
            for (String part : new String[] {"b", "b1", "b19", "b1,", "b19,"}) {
                dueNoRun(part);
                dueError(part, part.length());
            }
        });
        walksAndLeaps(s);
    }

    private static void walksAndLeaps(Sentences s) {
        String walk = "\"w\" and \"+\" or \"-\" (the runner walks to the right or to the left);";
        s.holds(walk, "to the right and to the left", () -> {
            LedgeLeaps x = typed("w+;w+;w-");
            Check.due("run()", x.run(), 3);
            Check.counts(x, "behind two walks to the right and one to the left", 2, 1, 3, 0, 5, 0);
        });
        s.holds(walk, "what comes behind each of its characters", () -> {
            dueNext("w", "+-");
            dueNext("w+", ";");
            dueNext("w-", ";");
        });
        s.holds(walk, "a part of it is no order", () -> dueNoRun("w"));
        String leap = "or \"l\", \"+\" or \"-\", and a run-up, 0 to 3 (a leap).";
        s.holds(leap, "to the right and to the left, with each run-up", () -> {
            for (int runUp = 0; runUp <= 3; runUp++) {
                LedgeLeaps x = typed("l+" + runUp);
                x.set(0, 1);
                x.put(3, 0);
                Check.due("run() of l+" + runUp, x.run(), 1);
                Check.counts(x, "behind it", 2, 3 + 4 * (runUp + 1), 5, 1);
                Check.type(x, "l-" + runUp);
                x.put(16, 0);
                Check.due("run() of l-" + runUp, x.run(), 1);
                Check.counts(x, "behind it", 2, 16 - 4 * (runUp + 1), 5, 2);
            }
        });
        s.holds(leap, "a greater run-up", () -> {
            dueError("l+4", 2);
            dueNoRun("l+4");
            dueError("l+10", 3);
        });
        s.holds(leap, "what comes behind each of its characters", () -> {
            dueNext("l", "+-");
            dueNext("l+", "0123");
            dueNext("l-", "0123");
            for (int runUp = 0; runUp <= 3; runUp++) {
                dueNext("l+" + runUp, ";");
            }
        });
        s.holds(leap, "a part of it is no order", () -> {
            dueNoRun("l");
            dueNoRun("l-");
        });
    }

    private static void errors(Sentences s) {
        String zeros = "Numbers are without leading zeros.";
        s.holds(zeros, "of a column", () -> {
            dueError("b00,1", 2);
            dueError("b01,1", 2);
            dueError("b012,1", 2);
            dueNoRun("b01,1");
            dueRun("b0,1", 1);
        });
        s.holds(zeros, "of a row", () -> {
            dueError("b1,00", 4);
            dueError("b1,01", 4);
            dueNoRun("b1,01");
            dueRun("b1,0", 1);
        });
        s.holds(zeros, "of a run-up", () -> {
            dueError("l+00", 3);
            dueError("l+01", 3);
            dueNoRun("l+00");
            dueRun("l+0", 1);
        });
        String error = "The buffer is read from left to right; a character is a syntax error if no orders as a text, of any "
            + "length, begin with the characters before it and this character.";
        s.holds(error, "the first one of several", () -> {
            dueError("x;y;z", 0);
            dueError("w+;x;w1", 3);
            dueError("w1;w+;x", 1);
        });
        s.holds(error, "none in a text that can still become orders", () -> {
            for (String begun : new String[] {"b", "b1", "b19", "b7,", "b10,9", "b0,0;", "w", "w-", "w+;", "l", "l+", "l-3",
                "l+0;w-;b1,2;b12,0", "w+;b1,"}) {
                dueError(begun, begun.length());
            }
        });
        String nineteen = "w+;".repeat(19);
        s.holds(error, "of any length: a full buffer that only a longer text begins with", () -> {
            dueError(nineteen + "w+;", 60);
            dueError(nineteen + "b19", 60);
            dueError(nineteen + "b7,", 60);
            dueNoRun(nineteen + "b7,");
        });
        s.holds(error, "the last character of a full buffer", () -> {
            dueError(nineteen + "w+w", 59);
            dueError(nineteen + "b20", 59);
        });
        s.holds(error, "a small and a great letter", () -> {
            dueError("B1,1", 0);
            dueError("W+", 0);
            dueError("L+0", 0);
        });
    }
}

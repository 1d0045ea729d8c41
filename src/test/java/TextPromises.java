/** Promises 7 to 10. */
final class TextPromises {
    private TextPromises() {
    }

    static void tell(Sentences s) {
        appends(s);
        clears(s);
        firstErrors(s);
        runs(s);
        runsThatStop(s);
        undoneRuns(s);
        answersOfRuns(s);
    }

    private static void appends(Sentences s) {
        s.section("Promise 7: append");
        s.holds("Appends a character to the buffer.", "behind those that are there", () -> {
            LedgeLeaps x = new LedgeLeaps();
            Check.type(x, "b17,9");
            Check.due("run()", x.run(), 1);
            Check.due("cellOf(17, 9, 0)", x.cellOf(17, 9, 0), 1);
        });
        s.holds("Appends a character to the buffer.", "also behind a syntax error", () -> {
            LedgeLeaps x = new LedgeLeaps();
            Check.type(x, "xw");
            Check.due("append(43)", x.append('+'), 3);
            Check.due("firstError()", x.firstError(), 0);
        });
        s.holds("- `code`: the character code, 33 to 126", "each of them", () -> {
            LedgeLeaps x = new LedgeLeaps();
            for (int code = 33; code <= 126; code++) {
                Check.due("append(" + code + ")", x.append(code), 1);
                x.clearBuffer();
            }
        });
        s.holds("Returns the new length of the buffer.", "from the first to the 60th, and behind clearBuffer", () -> {
            LedgeLeaps x = new LedgeLeaps();
            for (int length = 1; length <= 60; length++) {
                Check.due("append()", x.append(length % 2 == 0 ? 33 : 126), length);
            }
            x.clearBuffer();
            Check.due("append('w')", x.append('w'), 1);
        });
        s.holds("Throws `IllegalArgumentException` if code is not 33 to 126", "below and above", () -> {
            LedgeLeaps x = new LedgeLeaps();
            x.append('w');
            for (int code : Check.outside(33, 126)) {
                Check.dueThrow(x, "append(" + code + ")", Check.ARGUMENT, () -> x.append(code));
            }
            for (int code : new int[] {0, -1, 10, 128, 255, 256 + 'w', 65536 + 'w'}) {
                Check.dueThrow(x, "append(" + code + ")", Check.ARGUMENT, () -> x.append(code));
            }
            Check.due("append(43) behind it", x.append('+'), 2);
        });
        s.holds("Throws `IllegalStateException` if the buffer has 60 characters", "the 61st, and behind clearBuffer", () -> {
            LedgeLeaps x = new LedgeLeaps();
            Check.type(x, "w".repeat(60));
            Check.dueThrow(x, "append(33)", Check.STATE, () -> x.append(33));
            Check.dueThrow(x, "append(126)", Check.STATE, () -> x.append(126));
            x.clearBuffer();
            Check.due("append(33) behind clearBuffer", x.append(33), 1);
        });
        s.holds("Throws `IllegalStateException` if the buffer has 60 characters", "not with 59", () -> {
            LedgeLeaps x = new LedgeLeaps();
            Check.type(x, "w".repeat(59));
            Check.due("append(43) with 59 characters", x.append('+'), 60);
        });
    }

    private static void clears(Sentences s) {
        s.section("Promise 8: clearBuffer");
        s.holds("Clears the buffer.", "orders, and what comes behind", () -> {
            LedgeLeaps x = new LedgeLeaps();
            Check.type(x, "b5,5;x");
            x.clearBuffer();
            Check.due("firstError()", x.firstError(), 0);
            Check.dueThrow(x, "run()", Check.ARGUMENT, () -> x.run());
            Check.type(x, "w+");
            Check.due("run()", x.run(), 1);
            Check.counts(x, "behind run", 0, 0, 2, 1);
        });
        s.holds("Clears the buffer.", "a longer text than the next one", () -> {
            LedgeLeaps x = new LedgeLeaps();
            Check.type(x, "b19,9;b18,9");
            x.clearBuffer();
            Check.type(x, "b1,3");
            Check.due("run()", x.run(), 1);
            Check.counts(x, "behind run", 0, 1);
            Check.due("cellOf(1, 3, 0)", x.cellOf(1, 3, 0), 1);
        });
        s.holds("Returns the length that it had.", "empty, one, and full", () -> {
            LedgeLeaps x = new LedgeLeaps();
            Check.due("clearBuffer() of an empty buffer", x.clearBuffer(), 0);
            x.append('w');
            Check.due("clearBuffer() of one character", x.clearBuffer(), 1);
            Check.due("clearBuffer() again", x.clearBuffer(), 0);
            Check.type(x, "w".repeat(60));
            Check.due("clearBuffer() of a full buffer", x.clearBuffer(), 60);
        });
    }

    private static void firstErrors(Sentences s) {
        s.section("Promise 9: firstError");
        s.holds("Finds the first syntax error of the buffer.", "and leaves the buffer as it is", () -> {
            LedgeLeaps x = new LedgeLeaps();
            Check.type(x, "w+;q;w");
            Check.due("firstError()", x.firstError(), 3);
            Check.due("firstError() again", x.firstError(), 3);
            Check.due("clearBuffer()", x.clearBuffer(), 6);
        });
        s.holds("Returns the index of the first character that is a syntax error;", "the first and the last character", () -> {
            LedgeLeaps x = new LedgeLeaps();
            Check.type(x, "q");
            Check.due("firstError() of q", x.firstError(), 0);
            x.clearBuffer();
            Check.type(x, "w+;".repeat(19) + "w+q");
            Check.due("firstError() of a full buffer", x.firstError(), 59);
        });
        s.holds("Returns the index of the first character that is a syntax error;", "it stays, whatever is appended", () -> {
            LedgeLeaps x = new LedgeLeaps();
            Check.type(x, "b20");
            for (char code : ",5;w+;l+0".toCharArray()) {
                x.append(code);
                Check.due("firstError()", x.firstError(), 2);
            }
        });
        s.holds("the length of the buffer if there is none.", "empty, begun, whole, and full", () -> {
            LedgeLeaps x = new LedgeLeaps();
            Check.due("firstError() of an empty buffer", x.firstError(), 0);
            String text = "w+;".repeat(18) + "b17,9;";
            for (int i = 0; i < 60; i++) {
                x.append(text.charAt(i));
                Check.due("firstError()", x.firstError(), i + 1);
            }
        });
    }

    private static void runs(Sentences s) {
        s.section("Promise 10: run");
        String does = "Does the orders in the buffer as build(), walk() and leap() do, one after the other,";
        s.holds(does, "all of them", () -> {
            LedgeLeaps x = new LedgeLeaps();
            Check.type(x, "b9,1;b10,1;w+;w+;w+;w+;w+;l+0;w-;b9,1");
            Check.due("run()", x.run(), 10);
            // the runner walks to (5,0), leaps to (10,2), walks to (9,2), and falls as (9,1) is broken
            Check.counts(x, "behind run", 0, 1, 2, 9, 3, 0, 5, 1, 6, 0, 7, 0, 9, 1);
        });
        s.holds(does, "a leap to a wall is counted so", () -> {
            LedgeLeaps x = new LedgeLeaps();
            Check.type(x, "l-0;l+0");
            Check.due("run()", x.run(), 2);
            Check.counts(x, "behind run", 2, 6, 5, 2, 6, 1, 7, 0);
        });
        s.holds(does, "the same as the calls by themselves", () -> {
            LedgeLeaps x = new LedgeLeaps();
            LedgeLeaps y = new LedgeLeaps();
            Check.type(x, "b12,0;b13,1;w+;w+;w+;l+3;l-0;b13,1;l-1;w+;b19,9");
            x.run();
            y.build(12, 0);
            y.build(13, 1);
            y.walk(1);
            y.walk(1);
            y.walk(1);
            y.leap(1, 3);
            y.leap(-1, 0);
            y.build(13, 1);
            y.leap(-1, 1);
            y.walk(1);
            y.build(19, 9);
            for (int what = 0; what <= 8; what++) {
                Check.due("count(" + what + ") behind run", x.count(what), y.count(what));
            }
        });
        s.holds(does, "orders of one and of two figures", () -> {
            LedgeLeaps x = new LedgeLeaps();
            Check.type(x, "b1,9;b11,0;b0,4;b10,3;b19,9;b9,2");
            Check.due("run()", x.run(), 6);
            for (int[] cell : new int[][] {{1, 9}, {11, 0}, {0, 4}, {10, 3}, {19, 9}, {9, 2}}) {
                Check.due("cellOf(" + cell[0] + ", " + cell[1] + ", 0)", x.cellOf(cell[0], cell[1], 0), 1);
            }
        });
        s.holds("and clears the buffer.", "all done, and stopped", () -> {
            LedgeLeaps x = new LedgeLeaps();
            Check.type(x, "w+;w-");
            x.run();
            Check.due("clearBuffer() behind run", x.clearBuffer(), 0);
            Check.type(x, "w-;w+");
            x.run();
            Check.due("firstError() behind a run that stopped", x.firstError(), 0);
            Check.due("append(119) behind a run that stopped", x.append('w'), 1);
        });
    }

    private static void runsThatStop(Sentences s) {
        String upTo = "up to the first one that is refused (and counted so),";
        s.holds(upTo, "a walk in the midst", () -> {
            LedgeLeaps x = new LedgeLeaps();
            Check.type(x, "w+;w-;w-;w+;b5,5");
            Check.due("run()", x.run(), 2);
            Check.counts(x, "behind run", 0, 0, 2, 0, 7, 1, 9, 1);
        });
        s.holds(upTo, "a build in the midst", () -> {
            LedgeLeaps x = new LedgeLeaps();
            Check.type(x, "b5,5;b0,0;b6,6");
            Check.due("run()", x.run(), 1);
            Check.counts(x, "behind run", 0, 1, 7, 1, 9, 1);
        });
        s.holds(upTo, "a leap at the beginning", () -> {
            LedgeLeaps x = new LedgeLeaps();
            Check.type(x, "l+1;b6,6;l+0");
            Check.due("run()", x.run(), 0);
            Check.counts(x, "behind run", 0, 0, 2, 0, 5, 0, 7, 1, 9, 1);
        });
        s.holds(upTo, "the last one", () -> {
            LedgeLeaps x = new LedgeLeaps();
            Check.type(x, "w+;w+;l+3");
            Check.due("run()", x.run(), 2);
            Check.counts(x, "behind run", 2, 2, 5, 0, 7, 1);
        });
        s.holds(upTo, "the ones behind it are not counted, though they would be refused too", () -> {
            LedgeLeaps x = new LedgeLeaps();
            Check.type(x, "w-;w-;b0,0;l+3");
            Check.due("run()", x.run(), 0);
            Check.counts(x, "behind run", 7, 1);
        });
        s.holds(upTo, "a break or a leap that answers 0 is not refused", () -> {
            LedgeLeaps x = new LedgeLeaps();
            Check.type(x, "b5,5;b5,5;l-0;w+;w-;b6,6");
            Check.due("run()", x.run(), 6);
            Check.counts(x, "behind run", 0, 1, 7, 0);
        });
    }

    private static void undoneRuns(Sentences s) {
        String undoable = "Undoable, as one call, also if none is done.";
        s.holds(undoable, "as one call", () -> {
            LedgeLeaps x = new LedgeLeaps();
            x.build(5, 5);
            Check.type(x, "b9,1;w+;w+;l+0;w-;b6,6;b7,7;b8,8;w+");
            Check.due("run()", x.run(), 9);
            Check.counts(x, "behind run", 9, 2, 0, 5);
            Check.due("undo()", x.undo(), 1);
            Check.counts(x, "behind undo", 0, 1, 2, 0, 3, 0, 5, 0, 6, 0, 7, 0);
            Check.due("clearBuffer() behind undo", x.clearBuffer(), 0);
        });
        s.holds(undoable, "none is done", () -> {
            LedgeLeaps x = new LedgeLeaps();
            Check.type(x, "w-;w+");
            Check.due("run()", x.run(), 0);
            Check.counts(x, "behind run", 7, 1, 9, 1);
            Check.due("undo()", x.undo(), 0);
            Check.counts(x, "behind undo", 7, 0);
        });
        s.holds(undoable, "some are done", () -> {
            LedgeLeaps x = new LedgeLeaps();
            Check.type(x, "w+;b1,0;w+");
            Check.due("run()", x.run(), 1);
            Check.counts(x, "behind run", 2, 1, 7, 1, 9, 1);
            Check.due("undo()", x.undo(), 0);
            Check.counts(x, "behind undo", 2, 0, 7, 0);
        });
    }

    private static void answersOfRuns(Sentences s) {
        s.holds("Returns how many are done.", "none, one, and as many as there is room for", () -> {
            LedgeLeaps x = new LedgeLeaps();
            Check.type(x, "w-");
            Check.due("run() of a refused order", x.run(), 0);
            Check.type(x, "w+");
            Check.due("run() of one order", x.run(), 1);
            Check.type(x, "w+;".repeat(18) + "w-;l+3");
            Check.due("run() of 20 orders", x.run(), 20);
            Check.counts(x, "behind run", 2, 19, 5, 1, 6, 1, 7, 1, 9, 3);
        });
        for (String text : new String[] {"", "b", "b1", "b1,", "w", "l", "l-", "w+;", "w+;b1", "x", "w+;l+4", "b1,1;;", ";",
            "b20,0", "b1,10", "b01,1", "w+x", "w+!"}) {
            s.holds("Throws `IllegalArgumentException` if the buffer does not tell orders as a text",
                text.isEmpty() ? "an empty buffer" : text, () -> {
                    LedgeLeaps x = new LedgeLeaps();
                    Check.type(x, text);
                    Check.dueThrow(x, "run() of " + text, Check.ARGUMENT, () -> x.run());
                    Check.counts(x, "behind run, which throws,", 0, 0, 2, 0, 5, 0, 7, 0, 9, 0);
                    Check.due("clearBuffer()", x.clearBuffer(), text.length());
                });
        }
    }
}

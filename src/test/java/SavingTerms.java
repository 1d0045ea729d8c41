import java.util.function.Consumer;

/** What snapshots and saved states are. */
final class SavingTerms {
    private SavingTerms() {
    }

    static void tell(Sentences s) {
        s.section("Snapshots, undo");
        slots(s);
        snapshots(s);
        marked(s);
        notMarked(s);
        whatIsSaved(s);
        atMostSix(s);
    }

    private static void slots(Sentences s) {
        s.holds("There are two slots;", "each for itself", () -> {
            LedgeLeaps x = new LedgeLeaps();
            x.keep(0);
            x.build(5, 5);
            x.keep(1);
            x.build(6, 5);
            Check.due("goBack(0)", x.goBack(0), 0);
            Check.due("goBack(1)", x.goBack(1), 1);
            Check.due("goBack(0) again", x.goBack(0), 0);
        });
        s.holds("There are two slots;", "no third one", () -> {
            LedgeLeaps x = new LedgeLeaps();
            Check.dueThrow(x, "keep(2)", Check.ARGUMENT, () -> x.keep(2));
            Check.dueThrow(x, "keep(-1)", Check.ARGUMENT, () -> x.keep(-1));
        });
    }

    /** An object of which each part of the state is another one than at first. */
    static LedgeLeaps moved() {
        LedgeLeaps x = Levels.with(9, 1, 10, 1);
        x.set(0, 3);
        x.set(1, 4);
        x.set(2, 2);
        x.walk(-1);
        x.put(5, 0);
        x.leap(-1, 0);
        x.leap(1, 0);
        return x;
    }

    static void dueMoved(LedgeLeaps x, String when) {
        Check.counts(x, when, 0, 2, 1, 2, 2, 8, 3, 0, 4, 0, 5, 2, 6, 1, 7, 1);
        Check.settings(x, when, 3, 4, 2);
        Check.due("cellOf(9, 1, 0) " + when, x.cellOf(9, 1, 0), 1);
        Check.due("cellOf(10, 1, 0) " + when, x.cellOf(10, 1, 0), 1);
    }

    /** Each part of the state becomes another one again. */
    static void moveOn(LedgeLeaps x) {
        x.build(9, 1);
        x.build(3, 7);
        x.build(4, 7);
        x.set(0, 1);
        x.set(1, 1);
        x.set(2, 5);
        x.put(15, 5);
        x.leap(1, 0);
        x.leap(1, 0);
        x.put(3, 8);
    }

    private static void snapshots(Sentences s) {
        String snapshot = "a snapshot is all but the buffer, the slots and the saved states.";
        s.holds(snapshot, "all: blocks, settings, runner, and what is counted", () -> {
            LedgeLeaps x = moved();
            dueMoved(x, "at the beginning");
            x.keep(0);
            moveOn(x);
            Check.counts(x, "behind more", 0, 3, 2, 3, 3, 8, 5, 4, 6, 2, 7, 2);
            x.goBack(0);
            dueMoved(x, "behind goBack");
        });
        s.holds(snapshot, "but the buffer", () -> {
            LedgeLeaps x = new LedgeLeaps();
            Check.type(x, "w+");
            x.keep(0);
            Check.due("firstError() behind keep", x.firstError(), 2);
            Check.type(x, ";x");
            x.goBack(0);
            Check.due("firstError() behind goBack", x.firstError(), 3);
            Check.due("clearBuffer() behind goBack", x.clearBuffer(), 4);
        });
        s.holds(snapshot, "but the slots", () -> {
            LedgeLeaps x = new LedgeLeaps();
            x.keep(0);
            x.build(5, 5);
            x.keep(1);
            x.goBack(0);
            Check.due("goBack(1), which was kept behind the other", x.goBack(1), 1);
        });
        s.holds(snapshot, "but the saved states", () -> {
            LedgeLeaps x = new LedgeLeaps();
            x.build(5, 5);
            x.keep(0);
            x.build(6, 5);
            x.build(7, 5);
            x.goBack(0);
            Check.counts(x, "behind goBack", 9, 4, 0, 1);
            Check.due("undo()", x.undo(), 3);
            Check.counts(x, "behind undo of goBack", 0, 3);
            Check.due("undo()", x.undo(), 2);
            Check.counts(x, "behind undo of build", 0, 2);
        });
    }

    private static final String MARKED = "Each method that is marked \"undoable\" and does not throw an exception saves the "
        + "state from before it (also if it changes nothing, or is refused): all, also what is counted so far, but the buffer, "
        + "the slots and the saved states.";

    private static void dueSaved(Sentences s, String call, Consumer<LedgeLeaps> made) {
        s.holds(MARKED, call, () -> {
            LedgeLeaps x = new LedgeLeaps();
            x.keep(0);
            Check.type(x, call.startsWith("run") ? call.substring(4) : "");
            made.accept(x);
            Check.counts(x, "behind it", 9, 1);
            Check.due("undo()", x.undo(), 0);
            Check.counts(x, "behind undo", 0, 0, 2, 0, 3, 0, 5, 0, 6, 0, 7, 0, 9, 0);
            Check.settings(x, "behind undo", 2, 3, 1);
        });
    }

    private static void marked(Sentences s) {
        dueSaved(s, "build", x -> x.build(5, 5));
        dueSaved(s, "build, which is refused", x -> x.build(0, 0));
        dueSaved(s, "set", x -> x.set(1, 5));
        dueSaved(s, "set, which changes nothing", x -> x.set(1, 3));
        dueSaved(s, "walk", x -> x.walk(1));
        dueSaved(s, "walk, which is refused", x -> x.walk(-1));
        dueSaved(s, "leap", x -> x.leap(1, 0));
        dueSaved(s, "leap, which ends where it begins", x -> x.leap(-1, 0));
        dueSaved(s, "leap, which is refused", x -> x.leap(1, 1));
        dueSaved(s, "put", x -> x.put(5, 0));
        dueSaved(s, "put, which changes nothing", x -> x.put(0, 0));
        dueSaved(s, "put, which is refused", x -> x.put(5, 5));
        dueSaved(s, "run w+;w+;b5,5;l+0", x -> x.run());
        dueSaved(s, "run w+;w-;w-", x -> x.run());
        dueSaved(s, "run w-;w+", x -> x.run());
        dueSaved(s, "goBack, which changes nothing", x -> x.goBack(0));
    }

    private static void dueNotSaved(Sentences s, String call, Consumer<LedgeLeaps> made) {
        s.holds(MARKED, call + " saves nothing", () -> {
            LedgeLeaps x = new LedgeLeaps();
            x.keep(0);
            x.build(5, 5);
            Check.type(x, "w");
            try {
                made.accept(x);
            } catch (IllegalArgumentException | IllegalStateException | IndexOutOfBoundsException e) {
                Check.holds(call + " throws", call.endsWith("which throws,"));
            }
            Check.counts(x, "behind " + call, 9, 1);
            x.undo();
            Check.counts(x, "behind undo", 0, 0, 9, 0);
        });
    }

    private static void notMarked(Sentences s) {
        dueNotSaved(s, "append", x -> x.append('+'));
        dueNotSaved(s, "clearBuffer", x -> x.clearBuffer());
        dueNotSaved(s, "firstError", x -> x.firstError());
        dueNotSaved(s, "keep", x -> x.keep(1));
        dueNotSaved(s, "cellOf", x -> x.cellOf(0, 0, 2));
        dueNotSaved(s, "ledgeOf", x -> x.ledgeOf(0, 3));
        dueNotSaved(s, "count", x -> x.count(8));
        dueNotSaved(s, "setting", x -> x.setting(0));
        dueNotSaved(s, "arc", x -> x.arc(3, 1));
        dueNotSaved(s, "ifLeapt", x -> x.ifLeapt(0, 0, 1, 0, 0));
        dueNotSaved(s, "slowest", x -> x.slowest(0, 0));
        dueNotSaved(s, "fewest", x -> x.fewest(0, 1, 3, 1));
        dueNotSaved(s, "onlyRunning", x -> x.onlyRunning(0));
        dueNotSaved(s, "reachShare", x -> x.reachShare());
        dueNotSaved(s, "digest", x -> x.digest());
        dueNotSaved(s, "build, which throws,", x -> x.build(20, 0));
        dueNotSaved(s, "set, which throws,", x -> x.set(0, 5));
        dueNotSaved(s, "walk, which throws,", x -> x.walk(0));
        dueNotSaved(s, "leap, which throws,", x -> x.leap(1, 4));
        dueNotSaved(s, "put, which throws,", x -> x.put(0, 10));
        dueNotSaved(s, "run, which throws,", x -> x.run());
        dueNotSaved(s, "goBack, which throws,", x -> x.goBack(1));
    }

    private static void whatIsSaved(Sentences s) {
        s.holds(MARKED, "all: blocks, settings, runner, and what is counted", () -> {
            LedgeLeaps x = moved();
            Check.type(x, "b9,1;b3,7;w+;l+3;b0,0;w+;w+;w+;w+;w+;w+;w+;w+;w+;w+");
            x.run();
            Check.counts(x, "behind run", 0, 3, 2, 19, 5, 3, 6, 2, 7, 2);
            x.undo();
            dueMoved(x, "behind undo");
        });
        s.holds(MARKED, "all, from before each of six calls", () -> {
            LedgeLeaps x = moved();
            x.keep(1);
            x.set(0, 1);
            x.set(1, 1);
            x.set(2, 5);
            x.build(9, 1);
            x.put(15, 5);
            x.goBack(1);
            for (int i = 0; i < 6; i++) {
                x.undo();
            }
            dueMoved(x, "behind six undo");
        });
        s.holds(MARKED, "but the buffer", () -> {
            LedgeLeaps x = new LedgeLeaps();
            Check.type(x, "w+");
            x.build(5, 5);
            Check.type(x, ";x");
            x.undo();
            Check.due("firstError() behind undo", x.firstError(), 3);
            Check.due("clearBuffer() behind undo", x.clearBuffer(), 4);
            Check.type(x, "w+");
            x.run();
            x.undo();
            Check.due("clearBuffer() behind undo of run", x.clearBuffer(), 0);
        });
        s.holds(MARKED, "but the slots", () -> {
            LedgeLeaps x = new LedgeLeaps();
            x.keep(0);
            x.build(5, 5);
            x.keep(0);
            x.keep(1);
            x.undo();
            Check.due("goBack(0), kept again before undo", x.goBack(0), 1);
            x.undo();
            Check.due("goBack(1), kept before undo", x.goBack(1), 1);
        });
        s.holds(MARKED, "but the saved states: what is undone is not done again", () -> {
            LedgeLeaps x = new LedgeLeaps();
            x.build(5, 5);
            x.build(6, 5);
            Check.due("undo()", x.undo(), 1);
            Check.counts(x, "behind undo", 0, 1, 9, 1);
            Check.due("undo()", x.undo(), 0);
            Check.counts(x, "behind undo again", 0, 0, 9, 0);
        });
        s.holds(MARKED, "what is done later does not change a saved state", () -> {
            LedgeLeaps x = new LedgeLeaps();
            x.build(5, 5);
            x.build(6, 5);
            x.undo();
            x.build(7, 5);
            x.set(0, 4);
            x.undo();
            x.undo();
            Check.counts(x, "behind undo", 0, 1, 9, 1);
            Check.due("cellOf(5, 5, 0)", x.cellOf(5, 5, 0), 1);
            Check.due("cellOf(7, 5, 0)", x.cellOf(7, 5, 0), 0);
            Check.settings(x, "behind undo", 2, 3, 1);
        });
    }

    private static void atMostSix(Sentences s) {
        s.holds("At most 6 states are saved;", "the sixth and the seventh", () -> {
            LedgeLeaps x = new LedgeLeaps();
            for (int i = 1; i <= 9; i++) {
                x.build(i, 9);
                Check.counts(x, "behind " + i + " builds", 9, Math.min(i, 6));
            }
        });
        s.holds("At most 6 states are saved;", "six undo and no seventh", () -> {
            LedgeLeaps x = Levels.with(1, 9, 2, 9, 3, 9, 4, 9, 5, 9, 6, 9);
            for (int left = 5; left >= 0; left--) {
                Check.due("undo()", x.undo(), left);
            }
            Check.counts(x, "behind six undo of six", 0, 0);
            Check.dueThrow(x, "undo()", Check.STATE, () -> x.undo());
        });
        s.holds("the oldest one is dropped first.", "seven, and nine", () -> {
            for (int builds : new int[] {7, 9}) {
                LedgeLeaps x = new LedgeLeaps();
                for (int i = 1; i <= builds; i++) {
                    x.build(i, 9);
                }
                for (int i = 1; i <= 6; i++) {
                    x.undo();
                    Check.counts(x, "behind " + i + " undo of " + builds, 0, builds - i, 9, 6 - i);
                }
                Check.due("cellOf(" + (builds - 6) + ", 9, 0)", x.cellOf(builds - 6, 9, 0), 1);
                Check.due("cellOf(" + (builds - 5) + ", 9, 0)", x.cellOf(builds - 5, 9, 0), 0);
            }
        });
        s.holds("the oldest one is dropped first.", "again behind undo", () -> {
            LedgeLeaps x = new LedgeLeaps();
            for (int i = 1; i <= 8; i++) {
                x.build(i, 9);
            }
            x.undo();
            x.undo();
            for (int i = 9; i <= 12; i++) {
                x.build(i, 9);
            }
            Check.counts(x, "behind four more builds", 0, 10, 9, 6);
            for (int i = 1; i <= 6; i++) {
                x.undo();
            }
            Check.counts(x, "behind six undo", 0, 4, 9, 0);
        });
    }
}

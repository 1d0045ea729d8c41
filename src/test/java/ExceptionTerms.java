import java.util.function.ToLongFunction;

/** What exceptions leave as it is, which one is thrown, the constant, and what looks leave as it is. */
final class ExceptionTerms {
    private ExceptionTerms() {
    }

    static void tell(Sentences s) {
        s.section("Exceptions");
        nothingIsChanged(s);
        theFirstOne(s);
        s.holds("The constants: `NONE = -1`: There is nothing to return.", "its value, and what is returned", () -> {
            Check.due("NONE", LedgeLeaps.NONE, -1);
            LedgeLeaps x = new LedgeLeaps();
            Check.due("build(0, 0)", x.build(0, 0), -1);
            Check.due("walk(-1)", x.walk(-1), -1);
            Check.due("leap(1, 1)", x.leap(1, 1), -1);
            Check.due("put(5, 5)", x.put(5, 5), -1);
            Check.due("onlyRunning(0)", x.onlyRunning(0), -1);
        });
        theInterface(s);
    }

    private static void dueUnchanged(Sentences s, String call, Class<?> kind, ToLongFunction<LedgeLeaps> made) {
        s.holds("A call that throws an exception changes nothing (the buffer stays as it is, too).", call, () -> {
            LedgeLeaps x = SavingTerms.moved();
            Check.type(x, "w+;b1;x");
            x.keep(1);
            Check.dueThrow(x, call, kind, () -> made.applyAsLong(x));
            SavingTerms.dueMoved(x, "behind " + call);
            Check.counts(x, "behind " + call, 9, 6);
            Check.due("firstError() behind " + call, x.firstError(), 5);
            Check.due("clearBuffer() behind " + call, x.clearBuffer(), 7);
            Check.due("undo() behind " + call, x.undo(), 5);
            Check.counts(x, "behind " + call + " and undo", 2, 0, 5, 1);
            Check.due("goBack(1) behind " + call, x.goBack(1), 2);
            Check.dueThrow(x, "goBack(0) behind " + call, Check.STATE, () -> x.goBack(0));
        });
    }

    private static void nothingIsChanged(Sentences s) {
        dueUnchanged(s, "build(20, 0)", Check.INDEX, x -> x.build(20, 0));
        dueUnchanged(s, "set(3, 1)", Check.INDEX, x -> x.set(3, 1));
        dueUnchanged(s, "set(0, 5)", Check.ARGUMENT, x -> x.set(0, 5));
        dueUnchanged(s, "walk(0)", Check.ARGUMENT, x -> x.walk(0));
        dueUnchanged(s, "leap(0, 0)", Check.ARGUMENT, x -> x.leap(0, 0));
        dueUnchanged(s, "leap(1, 4)", Check.ARGUMENT, x -> x.leap(1, 4));
        dueUnchanged(s, "put(0, 10)", Check.INDEX, x -> x.put(0, 10));
        dueUnchanged(s, "append(32)", Check.ARGUMENT, x -> x.append(32));
        dueUnchanged(s, "run()", Check.ARGUMENT, x -> x.run());
        dueUnchanged(s, "keep(2)", Check.ARGUMENT, x -> x.keep(2));
        dueUnchanged(s, "goBack(2)", Check.ARGUMENT, x -> x.goBack(2));
        dueUnchanged(s, "goBack(0)", Check.STATE, x -> x.goBack(0));
        dueUnchanged(s, "cellOf(-1, 0, 0)", Check.INDEX, x -> x.cellOf(-1, 0, 0));
        dueUnchanged(s, "cellOf(0, 0, 5)", Check.ARGUMENT, x -> x.cellOf(0, 0, 5));
        dueUnchanged(s, "ledgeOf(2, 0)", Check.INDEX, x -> x.ledgeOf(2, 0));
        dueUnchanged(s, "ledgeOf(0, 6)", Check.ARGUMENT, x -> x.ledgeOf(0, 6));
        dueUnchanged(s, "count(10)", Check.ARGUMENT, x -> x.count(10));
        dueUnchanged(s, "setting(3)", Check.INDEX, x -> x.setting(3));
        dueUnchanged(s, "arc(31, 0)", Check.ARGUMENT, x -> x.arc(31, 0));
        dueUnchanged(s, "ifLeapt(0, -1, 1, 0, 0)", Check.INDEX, x -> x.ifLeapt(0, -1, 1, 0, 0));
        dueUnchanged(s, "ifLeapt(0, 0, 1, 0, 5)", Check.ARGUMENT, x -> x.ifLeapt(0, 0, 1, 0, 5));
        dueUnchanged(s, "slowest(0, 2)", Check.INDEX, x -> x.slowest(0, 2));
        dueUnchanged(s, "fewest(2, 0, 0, 0)", Check.INDEX, x -> x.fewest(2, 0, 0, 0));
        dueUnchanged(s, "fewest(0, 0, 4, 0)", Check.ARGUMENT, x -> x.fewest(0, 0, 4, 0));
        dueUnchanged(s, "onlyRunning(-1)", Check.ARGUMENT, x -> x.onlyRunning(-1));
        String nothing = "A call that throws an exception changes nothing (the buffer stays as it is, too).";
        s.holds(nothing, "append to a full buffer", () -> {
            LedgeLeaps x = new LedgeLeaps();
            Check.type(x, "x".repeat(60));
            Check.dueThrow(x, "append(119)", Check.STATE, () -> x.append('w'));
            Check.due("firstError()", x.firstError(), 0);
            Check.due("clearBuffer()", x.clearBuffer(), 60);
        });
        s.holds(nothing, "undo of nothing", () -> {
            LedgeLeaps x = new LedgeLeaps();
            Check.type(x, "w");
            Check.dueThrow(x, "undo()", Check.STATE, () -> x.undo());
            Check.due("clearBuffer()", x.clearBuffer(), 1);
            Check.counts(x, "behind undo, which throws,", 0, 0, 9, 0);
        });
        s.holds(nothing, "run of orders that are all done, up to one that is none", () -> {
            LedgeLeaps x = new LedgeLeaps();
            Check.type(x, "w+;b5,5;l+0;q");
            Check.dueThrow(x, "run()", Check.ARGUMENT, () -> x.run());
            Check.counts(x, "behind run, which throws,", 0, 0, 2, 0, 5, 0, 7, 0, 9, 0);
            Check.due("clearBuffer()", x.clearBuffer(), 13);
        });
    }

    private static void dueFirst(Sentences s, String call, Class<?> kind, ToLongFunction<LedgeLeaps> made) {
        s.holds("If several exceptions apply, the one that is named first in the throws clause is thrown.", call, () -> {
            LedgeLeaps x = new LedgeLeaps();
            Check.dueThrow(x, call, kind, () -> made.applyAsLong(x));
        });
    }

    private static void theFirstOne(Sentences s) {
        dueFirst(s, "set(3, 0)", Check.INDEX, x -> x.set(3, 0));
        dueFirst(s, "set(-1, 9)", Check.INDEX, x -> x.set(-1, 9));
        dueFirst(s, "cellOf(20, 0, 5)", Check.INDEX, x -> x.cellOf(20, 0, 5));
        dueFirst(s, "cellOf(0, -1, -1)", Check.INDEX, x -> x.cellOf(0, -1, -1));
        dueFirst(s, "ledgeOf(1, 6)", Check.INDEX, x -> x.ledgeOf(1, 6));
        dueFirst(s, "ledgeOf(-1, -1)", Check.INDEX, x -> x.ledgeOf(-1, -1));
        dueFirst(s, "ifLeapt(20, 0, 0, 0, 0)", Check.INDEX, x -> x.ifLeapt(20, 0, 0, 0, 0));
        dueFirst(s, "ifLeapt(0, 10, 1, 4, 0)", Check.INDEX, x -> x.ifLeapt(0, 10, 1, 4, 0));
        dueFirst(s, "ifLeapt(-1, 0, 1, 0, 5)", Check.INDEX, x -> x.ifLeapt(-1, 0, 1, 0, 5));
        dueFirst(s, "fewest(1, 0, 4, 0)", Check.INDEX, x -> x.fewest(1, 0, 4, 0));
        dueFirst(s, "fewest(0, 1, 0, 2)", Check.INDEX, x -> x.fewest(0, 1, 0, 2));
        dueFirst(s, "goBack(2)", Check.ARGUMENT, x -> x.goBack(2));
        dueFirst(s, "goBack(-1)", Check.ARGUMENT, x -> x.goBack(-1));
        s.holds("If several exceptions apply, the one that is named first in the throws clause is thrown.",
            "append(32) and append(127) to a full buffer", () -> {
                LedgeLeaps x = new LedgeLeaps();
                Check.type(x, "w".repeat(60));
                Check.dueThrow(x, "append(32)", Check.ARGUMENT, () -> x.append(32));
                Check.dueThrow(x, "append(127)", Check.ARGUMENT, () -> x.append(127));
            });
    }

    private static void theInterface(Sentences s) {
        s.holds("Ahead of the calls `build`, `set` the interface says: ---- the level.", "they change it",
            () -> Check.counts(Levels.with(5, 5), "behind build", 0, 1));
        s.holds("Ahead of the calls `walk`, `leap`, `put` the interface says: ---- the runner.", "they move it", () -> {
            LedgeLeaps x = new LedgeLeaps();
            x.put(5, 0);
            x.walk(1);
            Check.counts(x, "behind put and walk", 2, 6);
        });
        s.holds("Ahead of the calls `append`, `clearBuffer`, `firstError`, `run`, `keep`, `goBack`, `undo` the interface "
            + "says: ---- texts, snapshots.", "none of them but run and goBack is undoable", () -> {
                LedgeLeaps x = new LedgeLeaps();
                Check.type(x, "w+");
                x.firstError();
                x.keep(0);
                Check.counts(x, "behind append, firstError and keep", 9, 0);
                x.run();
                x.goBack(0);
                x.clearBuffer();
                Check.counts(x, "behind run, goBack and clearBuffer", 9, 2);
            });
        s.holds("Ahead of the calls `cellOf`, `ledgeOf`, `count`, `setting` the interface says: ---- looks; nothing is "
            + "changed.", "all of them", () -> {
                LedgeLeaps x = SavingTerms.moved();
                long before = x.digest();
                for (int what = 0; what <= 9; what++) {
                    x.cellOf(10, 2, what % 5);
                    x.ledgeOf(1, what % 6);
                    x.count(what);
                    x.setting(what % 3);
                }
                Check.due("digest() behind looks", x.digest(), before);
                SavingTerms.dueMoved(x, "behind looks");
            });
        s.holds("Ahead of the calls `arc`, `ifLeapt`, `slowest`, `fewest`, `onlyRunning`, `reachShare`, `digest` the "
            + "interface says: ---- what would be; nothing is changed.", "all of them", () -> {
                LedgeLeaps x = SavingTerms.moved();
                long before = x.digest();
                for (int what = 0; what <= 4; what++) {
                    x.arc(7, what % 2);
                    x.ifLeapt(5, 0, -1, what % 4, what);
                    x.ifLeapt(5, 5, 1, 0, what);
                    x.slowest(what % 2, 0);
                    x.fewest(0, what % 2, what % 4, what / 2 % 2);
                    x.onlyRunning(what);
                    x.reachShare();
                }
                Check.due("digest() behind what would be", x.digest(), before);
                SavingTerms.dueMoved(x, "behind what would be");
            });
    }
}

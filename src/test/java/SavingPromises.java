/** Promises 11 to 13. */
final class SavingPromises {
    private SavingPromises() {
    }

    static void tell(Sentences s) {
        keeps(s);
        goesBack(s);
        answersOfGoBack(s);
        undoes(s);
    }

    private static void keeps(Sentences s) {
        s.section("Promise 11: keep");
        String takes = "Takes a snapshot, in place of the one in the slot.";
        s.holds(takes, "into an empty slot, and in place of another one", () -> {
            LedgeLeaps x = new LedgeLeaps();
            x.keep(0);
            x.build(5, 5);
            x.goBack(0);
            Check.counts(x, "behind goBack", 0, 0);
            x.build(6, 5);
            x.build(7, 5);
            x.keep(0);
            x.build(8, 5);
            x.goBack(0);
            Check.counts(x, "behind goBack to the later one", 0, 2);
        });
        s.holds(takes, "what is done later does not change it", () -> {
            LedgeLeaps x = SavingTerms.moved();
            x.keep(1);
            SavingTerms.moveOn(x);
            x.goBack(1);
            SavingTerms.dueMoved(x, "behind goBack");
        });
        s.holds(takes, "the other slot stays as it is", () -> {
            LedgeLeaps x = new LedgeLeaps();
            x.keep(1);
            Check.dueThrow(x, "goBack(0)", Check.STATE, () -> x.goBack(0));
            x.build(5, 5);
            x.keep(0);
            Check.due("goBack(1)", x.goBack(1), 0);
        });
        s.holds("- `slot`: 0 or 1", "both", () -> {
            LedgeLeaps x = new LedgeLeaps();
            Check.due("keep(0)", x.keep(0), 0);
            Check.due("keep(1)", x.keep(1), 0);
        });
        s.holds("Returns how many blocks there are.", "none, some, and as many as can be", () -> {
            Check.due("keep(0) with none", new LedgeLeaps().keep(0), 0);
            Check.due("keep(0) with two", SavingTerms.moved().keep(0), 2);
            Check.due("keep(1) of a full level", Levels.full().keep(1), 199);
        });
        s.holds("Throws `IllegalArgumentException` if slot is out of range", "below and above", () -> {
            LedgeLeaps x = new LedgeLeaps();
            for (int slot : Check.outside(0, 1)) {
                Check.dueThrow(x, "keep(" + slot + ")", Check.ARGUMENT, () -> x.keep(slot));
            }
        });
    }

    private static void goesBack(Sentences s) {
        s.section("Promise 12: goBack");
        String goes = "Goes back to a snapshot, which stays.";
        s.holds(goes, "again and again, whatever is done between", () -> {
            LedgeLeaps x = SavingTerms.moved();
            x.keep(0);
            for (int i = 0; i < 3; i++) {
                SavingTerms.moveOn(x);
                x.goBack(0);
                SavingTerms.dueMoved(x, "behind goBack");
            }
        });
        s.holds(goes, "from one to the other", () -> {
            LedgeLeaps x = new LedgeLeaps();
            x.keep(0);
            x.build(5, 5);
            x.put(5, 6);
            x.keep(1);
            for (int i = 0; i < 3; i++) {
                x.goBack(0);
                Check.counts(x, "behind goBack(0)", 0, 0, 3, 0);
                x.goBack(1);
                Check.counts(x, "behind goBack(1)", 0, 1, 3, 6);
            }
        });
        s.holds("Undoable.", "back to what was before it", () -> {
            LedgeLeaps x = new LedgeLeaps();
            x.keep(0);
            x.build(5, 5);
            x.walk(-1);
            x.goBack(0);
            Check.counts(x, "behind goBack", 0, 0, 7, 0, 9, 3);
            Check.due("undo()", x.undo(), 2);
            Check.counts(x, "behind undo", 0, 1, 7, 1, 9, 2);
            Check.due("goBack(0) behind undo", x.goBack(0), 0);
        });
        s.holds("Undoable.", "as the seventh one, too", () -> {
            LedgeLeaps x = Levels.with(1, 9, 2, 9, 3, 9, 4, 9, 5, 9, 6, 9);
            x.keep(0);
            x.goBack(0);
            Check.counts(x, "behind goBack", 9, 6, 0, 6);
            x.undo();
            Check.counts(x, "behind undo", 9, 5, 0, 6);
            x.undo();
            Check.counts(x, "behind undo twice", 9, 4, 0, 5);
        });
        s.holds("- `slot`: 0 or 1", "both", () -> {
            LedgeLeaps x = Levels.with(5, 5);
            x.keep(0);
            x.keep(1);
            Check.due("goBack(0)", x.goBack(0), 1);
            Check.due("goBack(1)", x.goBack(1), 1);
        });
    }

    private static void answersOfGoBack(Sentences s) {
        s.holds("Returns how many blocks there are then.", "fewer, and more", () -> {
            LedgeLeaps x = new LedgeLeaps();
            x.keep(0);
            Levels.build(x, 5, 5, 6, 5);
            x.keep(1);
            x.build(5, 5);
            Check.due("goBack(1)", x.goBack(1), 2);
            Check.due("goBack(0)", x.goBack(0), 0);
            Check.due("goBack(1)", x.goBack(1), 2);
        });
        s.holds("Throws `IllegalArgumentException` if slot is out of range", "below and above", () -> {
            LedgeLeaps x = new LedgeLeaps();
            x.keep(0);
            x.keep(1);
            for (int slot : Check.outside(0, 1)) {
                Check.dueThrow(x, "goBack(" + slot + ")", Check.ARGUMENT, () -> x.goBack(slot));
            }
        });
        s.holds("Throws `IllegalStateException` if there is no snapshot in it", "of none, and of one", () -> {
            LedgeLeaps x = new LedgeLeaps();
            Check.dueThrow(x, "goBack(0)", Check.STATE, () -> x.goBack(0));
            Check.dueThrow(x, "goBack(1)", Check.STATE, () -> x.goBack(1));
            x.keep(0);
            Check.dueThrow(x, "goBack(1)", Check.STATE, () -> x.goBack(1));
            Check.due("goBack(0)", x.goBack(0), 0);
            LedgeLeaps y = new LedgeLeaps();
            y.keep(1);
            Check.dueThrow(y, "goBack(0)", Check.STATE, () -> y.goBack(0));
        });
    }

    private static void undoes(Sentences s) {
        s.section("Promise 13: undo");
        String restores = "Restores the latest saved state, and drops it.";
        s.holds(restores, "one after the other", () -> {
            LedgeLeaps x = new LedgeLeaps();
            x.build(5, 5);
            x.set(0, 4);
            x.walk(1);
            x.undo();
            Check.counts(x, "behind undo", 0, 1, 2, 0);
            Check.settings(x, "behind undo", 4, 3, 1);
            x.undo();
            Check.counts(x, "behind undo twice", 0, 1);
            Check.settings(x, "behind undo twice", 2, 3, 1);
            x.undo();
            Check.counts(x, "behind undo three times", 0, 0);
        });
        s.holds(restores, "what follows from the level is told anew", () -> {
            LedgeLeaps x = Levels.with(5, 8);
            x.put(5, 9);
            Check.dueShare("reachShare()", x.reachShare(), 1.0);
            Check.due("slowest(1, 0)", x.slowest(1, 0), 0);
            x.undo();
            Check.dueShare("reachShare() behind undo", x.reachShare(), 1.0 / 2);
            x.undo();
            Check.counts(x, "behind undo twice", 1, 1, 8, 0);
            Check.dueShare("reachShare() behind undo twice", x.reachShare(), 1.0);
        });
        s.holds(restores, "it is not undoable itself", () -> {
            LedgeLeaps x = Levels.with(5, 5);
            x.undo();
            Check.counts(x, "behind undo", 9, 0);
            Check.dueThrow(x, "undo()", Check.STATE, () -> x.undo());
        });
        s.holds("Returns how many saved states are left.", "from the most to none", () -> {
            LedgeLeaps x = Levels.with(1, 9, 2, 9, 3, 9, 4, 9, 5, 9, 6, 9, 7, 9);
            for (int left = 5; left >= 0; left--) {
                Check.due("undo()", x.undo(), left);
                Check.counts(x, "behind undo", 9, left);
            }
        });
        s.holds("Throws `IllegalStateException` if there is none", "of a new object, and behind the last one", () -> {
            LedgeLeaps x = new LedgeLeaps();
            Check.dueThrow(x, "undo()", Check.STATE, () -> x.undo());
            x.walk(-1);
            Check.due("undo()", x.undo(), 0);
            Check.dueThrow(x, "undo()", Check.STATE, () -> x.undo());
        });
    }
}

/** The bounds of the history and of errors, sentence by sentence: HISTORY, ERRORS, and the promises 16 to 18. */
public final class HistoryBoundsTest {
    private static final int UNKNOWN = -1;
    private static final int BAD_VALUE = -2;
    private static final int FULL = -3;
    private static final int NOT_POSSIBLE = -4;
    private static final int NONE = -5;

    public static void main(String[] args) {
        allCalls();
        termsOfHistory();
        termsOfErrors();
        constants();
        promise16();
        promise17();
        promise18();
        Check.end();
    }

    private static void allCalls() {
        Check.sentence("What it is", "An object is used for at most 512 calls after it has been made;");
        NoteThemes x = new NoteThemes();
        for (int i = 0; i < 12; i++) {
            Check.due("put", x.put(0, 0), i);
        }
        for (int i = 0; i < 125; i++) {
            Check.due("drag", x.drag(i % 12, 29, 19), 2);
            Check.due("note", x.note(i % 12, 0), 29);
            Check.due("undo", x.undo(), 3);
            Check.due("count", x.count(11), 3);
        }
    }

    // ---- HISTORY

    private static void termsOfHistory() {
        fourStates();
        theLatestOne();
        actsAndNoActs();
        noSnapshotAtFirst();
        whatAStateHas();
    }

    private static void fourStates() {
        Check.sentence("HISTORY",
            "A history of at most 4 states is kept; when one more is recorded, the oldest one is dropped;");
        for (int acts = 0; acts <= 20; acts++) {
            NoteThemes x = Boards.alone(acts);
            int kept = Math.min(acts, 4);
            Check.due("states behind " + acts, x.count(11), kept);
            for (int left = kept - 1; left >= 0; left--) {
                Check.due("undo()", x.undo(), left);
                Check.due("notes", x.count(0), acts - kept + left);
                Check.due("states", x.count(11), left);
            }
            Check.due("no other is there", x.undo(), NONE);
            Check.due("notes", x.count(0), acts - kept);
        }
    }

    private static void theLatestOne() {
        Check.sentence("HISTORY", "undo() removes and restores the latest one.");
        NoteThemes x = Boards.at(0, 0);
        for (int column = 1; column <= 6; column++) {
            x.drag(0, column, 0);
        }
        x.undo();
        Check.due("the latest", x.note(0, 0), 5);
        x.undo();
        Check.due("that before", x.note(0, 0), 4);
        x.drag(0, 29, 0);
        x.undo();
        Check.due("the latest again", x.note(0, 0), 4);
        Check.due("the third", x.undo(), 1);
        Check.due("its place", x.note(0, 0), 3);
        Check.due("the oldest", x.undo(), 0);
        Check.due("its place", x.note(0, 0), 2);
        Check.due("those that were dropped are gone", x.undo(), NONE);
        Check.due("its place", x.note(0, 0), 2);
    }

    private static void actsAndNoActs() {
        Check.sentence("HISTORY", "Each call of a method that is described as an act, and returns no error and not NONE,"
            + " records the state that was before it.");
        Before some = Before.SOME;
        Compare.recorded(some, "put(5, 5)", 5, x -> x.put(5, 5));
        Compare.recorded(some, "load()", 2, x -> x.load());
        Compare.recorded(some, "takeOff(1)", 2, x -> x.takeOff(1));
        Compare.recorded(some, "drag(1, 5, 5)", 5, x -> x.drag(1, 5, 5));
        Compare.recorded(some, "dragHeap(0, 5, 5)", 3, x -> x.dragHeap(0, 5, 5));
        Compare.recorded(some, "stick(1, 1)", 3, x -> x.stick(1, 1));
        Compare.recorded(some, "unstick(0, 1)", 1, x -> x.unstick(0, 1));
        Compare.recorded(some, "make(2)", 2, x -> x.make(2));
        Compare.recorded(some, "merge(1, 0)", 4, x -> x.merge(1, 0));
        Compare.recorded(some, "belong(3, 0)", 1, x -> x.belong(3, 0));
        Compare.recorded(some, "vote(1, 0, 0)", 10, x -> x.vote(1, 0, 0));
        Compare.recorded(some, "set(2, 1)", 2, x -> x.set(2, 1));
        Compare.recorded(some, "restore()", 5, x -> x.restore());
        NoteThemes noActs = Before.SOME.make();
        noActs.type('x');
        noActs.clearText();
        noActs.keep();
        Check.due("states behind calls that are no acts", noActs.count(11), Before.SOME_STATES);
        NoteThemes told = Before.SOME.make();
        Boards.follows(told);
        told.reachFor(1);
        told.ifDragged(0, 5, 5, 0);
        Check.due("states behind calls that tell", told.count(11), Before.SOME_STATES);
    }

    private static void noSnapshotAtFirst() {
        Check.sentence("HISTORY", "There is one snapshot, empty at first.");
        Check.due("at first", new NoteThemes().restore(), NONE);
        Check.due("behind an act", Boards.at(0, 0).restore(), NONE);
        NoteThemes x = Boards.at(0, 0);
        x.keep();
        x.put(1, 1);
        x.keep();
        x.put(2, 2);
        Check.due("the later one", x.restore(), 2);
        x.undo();
        x.undo();
        x.undo();
        Check.due("there is no other", x.restore(), 2);
    }

    private static void whatAStateHas() {
        Check.sentence("HISTORY", "A state is everything but the text, the history and the snapshot.");
        NoteThemes x = Before.SOME.make();
        String state = Boards.state(x);
        x.load();
        x.clearText();
        x.type('8');
        x.keep();
        Check.due("undo()", x.undo(), Before.SOME_STATES);
        Check.same("notes, dots, themes, votes, settings", Boards.state(x), state);
        Check.due("the text stays", x.count(12), 1);
        Check.due("the snapshot stays", x.restore(), 2);
        Check.due("states", x.count(11), 4);
        NoteThemes y = Before.SOME.make();
        y.keep();
        y.load();
        for (int which = 0; which < 3; which++) {
            y.set(which, 1);
        }
        y.restore();
        Check.same("what restore() brings back", Boards.state(y), state);
        Check.due("the text stays", y.count(12), 8);
        Check.due("the history stays, with one state more", y.count(11), 4);
        Check.due("undo()", y.undo(), 3);
        Check.due("the settings before", y.count(10), 1);
    }

    // ---- ERRORS

    private static void termsOfErrors() {
        Check.sentence("ERRORS", "Errors are reported by the constants below.");
        int[] constants = {NoteThemes.UNKNOWN, NoteThemes.BAD_VALUE, NoteThemes.FULL, NoteThemes.NOT_POSSIBLE,
            NoteThemes.NONE};
        for (int i = 0; i < constants.length; i++) {
            Check.due("the constant " + i, constants[i], -1 - i);
        }
        orderOfChecks();
        noneComesLast();
        nothingChanges();
    }

    private static void orderOfChecks() {
        Check.sentence("ERRORS",
            "Where several errors can apply, the order of the @return line is the order of the checks.");
        Before full = Before.FULL;
        Check.due("put: UNKNOWN, FULL", full.make().put(30, 0), UNKNOWN);
        Check.due("put: UNKNOWN, FULL", full.make().put(0, 20), UNKNOWN);
        Check.due("dragHeap: UNKNOWN, BAD_VALUE", full.make().dragHeap(20, 30, 0), UNKNOWN);
        Check.due("dragHeap: UNKNOWN, NOT_POSSIBLE", full.make().dragHeap(-1, 29, 19), UNKNOWN);
        Check.due("dragHeap: BAD_VALUE, NOT_POSSIBLE", full.make().dragHeap(0, -1, 20), BAD_VALUE);
        Check.due("dragHeap: BAD_VALUE, NOT_POSSIBLE", full.make().dragHeap(0, 30, -1), BAD_VALUE);
        Check.due("stick: UNKNOWN, FULL", full.make().stick(0, 20), UNKNOWN);
        Check.due("stick: FULL, NOT_POSSIBLE", full.make().stick(0, 0), FULL);
        Check.due("make: UNKNOWN, FULL", full.make().make(20), UNKNOWN);
        Check.due("make: NOT_POSSIBLE, FULL", full.make().make(0), NOT_POSSIBLE);
        Check.due("merge: UNKNOWN, BAD_VALUE", full.make().merge(8, 8), UNKNOWN);
        Check.due("vote: UNKNOWN, BAD_VALUE", full.make().vote(6, 0, 10), UNKNOWN);
        Check.due("vote: UNKNOWN, BAD_VALUE", full.make().vote(0, 8, -1), UNKNOWN);
        Check.due("set: UNKNOWN, BAD_VALUE", full.make().set(3, 21), UNKNOWN);
        Check.due("note: UNKNOWN, BAD_VALUE", full.make().note(20, 7), UNKNOWN);
        Check.due("heap: UNKNOWN, BAD_VALUE", full.make().heap(20, 7), UNKNOWN);
        Check.due("theme: UNKNOWN, BAD_VALUE", full.make().theme(8, 6), UNKNOWN);
        Check.due("votes: UNKNOWN, BAD_VALUE", full.make().votes(8, 10), UNKNOWN);
        Check.due("ifDragged: UNKNOWN, BAD_VALUE", full.make().ifDragged(20, 0, 0, 3), UNKNOWN);
        Check.due("ifDragged: UNKNOWN, BAD_VALUE", full.make().ifDragged(0, 30, 0, 3), UNKNOWN);
        Check.due("ifDragged: UNKNOWN, BAD_VALUE", full.make().ifDragged(0, 0, -1, -1), UNKNOWN);
    }

    private static void noneComesLast() {
        Check.sentence("ERRORS", "NONE is no error; it is returned only if no error applies.");
        Before some = Before.SOME;
        Check.due("dragHeap(3, 0, 0)", some.make().dragHeap(3, 0, 0), UNKNOWN);
        Check.due("belong(5, NONE)", some.make().belong(5, NONE), UNKNOWN);
        Check.due("vote(6, 0, NONE)", some.make().vote(6, 0, NONE), UNKNOWN);
        Check.due("vote(0, 2, NONE)", some.make().vote(0, 2, NONE), UNKNOWN);
        Check.due("nearest(1) of one note", Boards.at(0, 0).nearest(1), UNKNOWN);
        Check.due("nearest(0) of no note", new NoteThemes().nearest(0), UNKNOWN);
        Check.due("drag(4, 29, 19)", some.make().drag(4, 29, 19), NONE);
        Check.due("dragHeap(2, 0, 0)", some.make().dragHeap(2, 0, 0), NONE);
        Check.due("belong(4, NONE)", some.make().belong(4, NONE), NONE);
        Check.due("vote(5, 1, NONE)", some.make().vote(5, 1, NONE), NONE);
        Check.due("set(0, 3)", some.make().set(0, 3), NONE);
        Check.due("undo()", new NoteThemes().undo(), NONE);
        Check.due("restore()", new NoteThemes().restore(), NONE);
        Check.due("note(4, 4)", some.make().note(4, 4), NONE);
        Check.due("theme(1, 2)", some.make().theme(1, 2), NONE);
        Check.due("nearest(0)", Boards.at(0, 0).nearest(0), NONE);
    }

    private static void nothingChanges() {
        Check.sentence("ERRORS", "A call that returns an error or NONE changes nothing.");
        Before full = Before.FULL;
        Compare.unchanged(full, "put(1, 1)", FULL, x -> x.put(1, 1));
        Compare.unchanged(full, "takeOff(20)", UNKNOWN, x -> x.takeOff(20));
        Compare.unchanged(full, "drag(19, 29, 19)", NONE, x -> x.drag(19, 29, 19));
        Compare.unchanged(full, "drag(19, 29, 20)", UNKNOWN, x -> x.drag(19, 29, 20));
        Compare.unchanged(full, "dragHeap(0, -1, 0)", NOT_POSSIBLE, x -> x.dragHeap(0, -1, 0));
        Compare.unchanged(full, "dragHeap(0, 0, 0)", NONE, x -> x.dragHeap(0, 0, 0));
        Compare.unchanged(full, "dragHeap(0, 0, 20)", BAD_VALUE, x -> x.dragHeap(0, 0, 20));
        Compare.unchanged(full, "stick(0, 5)", FULL, x -> x.stick(0, 5));
        Compare.unchanged(full, "stick(1, 0)", NOT_POSSIBLE, x -> x.stick(1, 0));
        Compare.unchanged(full, "unstick(5, 0)", NOT_POSSIBLE, x -> x.unstick(5, 0));
        Compare.unchanged(full, "make(8)", FULL, x -> x.make(8));
        Compare.unchanged(full, "make(0)", NOT_POSSIBLE, x -> x.make(0));
        Compare.unchanged(full, "merge(0, 0)", BAD_VALUE, x -> x.merge(0, 0));
        Compare.unchanged(full, "merge(0, 8)", UNKNOWN, x -> x.merge(0, 8));
        Compare.unchanged(full, "belong(0, 0)", NONE, x -> x.belong(0, 0));
        Compare.unchanged(full, "belong(0, 8)", UNKNOWN, x -> x.belong(0, 8));
        Compare.unchanged(full, "vote(0, 0, 4)", NONE, x -> x.vote(0, 0, 4));
        Compare.unchanged(full, "vote(0, 0, 10)", BAD_VALUE, x -> x.vote(0, 0, 10));
        Compare.unchanged(full, "set(0, 3)", NONE, x -> x.set(0, 3));
        Compare.unchanged(full, "set(0, 21)", BAD_VALUE, x -> x.set(0, 21));
        Compare.unchanged(full, "type('1')", FULL, x -> x.type('1'));
        Compare.unchanged(Before.FAULTY, "load()", -179, x -> x.load());
        Compare.unchanged(Before.UNDONE, "undo()", NONE, x -> x.undo());
        Compare.unchanged(Before.UNKEPT, "restore()", NONE, x -> x.restore());
    }

    private static void constants() {
        Check.sentence("ERRORS", "The constants: `UNKNOWN = -1`: There is no such note, heap, theme, person or place.");
        Before some = Before.SOME;
        Check.due("no such note", some.make().note(5, 0), NoteThemes.UNKNOWN);
        Check.due("no such heap", some.make().heap(3, 0), NoteThemes.UNKNOWN);
        Check.due("no such theme", some.make().theme(2, 0), NoteThemes.UNKNOWN);
        Check.due("no such person", some.make().dots(6, 0), NoteThemes.UNKNOWN);
        Check.due("no such place", some.make().drag(0, 30, 0), NoteThemes.UNKNOWN);
        Check.due("its value", NoteThemes.UNKNOWN, -1);

        Check.sentence("ERRORS", "`BAD_VALUE = -2`: Another argument is out of range.");
        Check.due("what", some.make().note(0, 7), NoteThemes.BAD_VALUE);
        Check.due("name", some.make().votes(0, 10), NoteThemes.BAD_VALUE);
        Check.due("its value", NoteThemes.BAD_VALUE, -2);

        Check.sentence("ERRORS", "`FULL = -3`: There is no more room.");
        Check.due("notes", Before.FULL.make().put(0, 0), NoteThemes.FULL);
        Check.due("dots", Before.FULL.make().stick(0, 19), NoteThemes.FULL);
        Check.due("themes", Before.FULL.make().make(19), NoteThemes.FULL);
        Check.due("text", Before.FULL.make().type('1'), NoteThemes.FULL);
        Check.due("its value", NoteThemes.FULL, -3);

        Check.sentence("ERRORS", "`NOT_POSSIBLE = -4`: This is not possible.");
        Check.due("a heap beyond the board", some.make().dragHeap(2, 1, 0), NoteThemes.NOT_POSSIBLE);
        Check.due("its value", NoteThemes.NOT_POSSIBLE, -4);

        Check.sentence("ERRORS", "`NONE = -5`: There is no such thing; not an error.");
        Check.due("no theme", some.make().note(4, 4), NoteThemes.NONE);
        Check.due("its value", NoteThemes.NONE, -5);
    }

    // ---- Promise 16: undo

    private static void promise16() {
        Check.sentence("Promise 16", "Removes and restores the latest state of the history.");
        NoteThemes x = Before.SOME.make();
        String state = Boards.state(x);
        x.load();
        x.undo();
        Check.same("the state", Boards.state(x), state);
        Check.due("states", x.count(11), Before.SOME_STATES);
        x.undo();
        Check.due("the vote that was the latest act", x.votes(1, 4), 0);
        Check.due("undo() is no act", x.count(11), Before.SOME_STATES - 1);

        Check.sentence("Promise 16", "Returns the number of states that are left;");
        NoteThemes full = Before.FULL.make();
        for (int left = 3; left >= 0; left--) {
            Check.due("undo()", full.undo(), left);
            Check.due("count(11)", full.count(11), left);
        }
        Check.due("undo()", full.undo(), NONE);
        full.takeOff(0);
        Check.due("0 is no error", full.undo(), 0);
        Check.due("the note is there again", full.count(0), 20);

        Check.sentence("Promise 16", "NONE if the history is empty.");
        Compare.unchanged(Before.EMPTY, "undo()", NONE, y -> y.undo());
        Compare.unchanged(Before.UNDONE, "undo()", NONE, y -> y.undo());
    }

    // ---- Promise 17: keep

    private static void promise17() {
        Check.sentence("Promise 17", "Takes a snapshot of the state, in place of the one that was.");
        NoteThemes x = Before.FULL.make();
        x.keep();
        Check.same("nothing else changes", Boards.told(x), Boards.told(Before.FULL.make()));
        NoteThemes again = Before.FULL.make();
        again.keep();
        again.load();
        again.set(0, 0);
        again.restore();
        Check.same("the state that was kept last", Boards.state(again), Boards.state(Before.FULL.make()));
        NoteThemes undone = Before.SOME.make();
        undone.takeOff(0);
        undone.keep();
        undone.undo();
        Check.due("undo() does not take it back", undone.restore(), Before.SOME_NOTES - 1);

        Check.sentence("Promise 17", "Returns how many notes there are.");
        for (int notes = 0; notes <= 20; notes++) {
            NoteThemes kept = Boards.alone(notes);
            Check.due("keep()", kept.keep(), notes);
            Check.due("keep() again", kept.keep(), notes);
            Check.due("it is no act", kept.count(11), Math.min(notes, 4));
        }
    }

    // ---- Promise 18: restore

    private static void promise18() {
        Check.sentence("Promise 18", "Restores the state of the snapshot, which stays. This is an act.");
        Compare.recorded(Before.SOME, "restore()", 5, x -> x.restore());
        Compare.recorded(Before.FULL, "restore()", 20, x -> x.restore());
        NoteThemes x = Boards.at(0, 0, 9, 9);
        String state = Boards.state(x);
        x.keep();
        for (int i = 0; i < 3; i++) {
            x.takeOff(0);
            x.put(5, 5);
            x.stick(0, 0);
            x.set(0, i);
            x.make(0);
            Check.due("restore()", x.restore(), 2);
            Check.same("the state, each time", Boards.state(x), state);
        }
        Check.due("it is recorded even if nothing is other then", x.restore(), 2);
        x.undo();
        x.undo();
        Check.due("the state before", x.count(2), 1);

        Check.sentence("Promise 18", "Returns how many notes there are then;");
        for (int notes = 0; notes <= 20; notes++) {
            NoteThemes kept = Boards.alone(notes);
            kept.keep();
            if (notes < 20) {
                kept.put(29, 19);
            } else {
                kept.takeOff(0);
            }
            Check.due("restore()", kept.restore(), notes);
            Check.due("count(0)", kept.count(0), notes);
        }
        NoteThemes empty = new NoteThemes();
        empty.keep();
        Check.due("the snapshot of an empty board", empty.restore(), 0);
        Check.due("0 is no error, so it is recorded", empty.count(11), 1);

        Check.sentence("Promise 18", "NONE if there is no snapshot.");
        Compare.unchanged(Before.EMPTY, "restore()", NONE, y -> y.restore());
        Compare.unchanged(Before.UNKEPT, "restore()", NONE, y -> y.restore());
    }
}

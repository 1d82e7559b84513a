/** Promises 16 to 18: undo and the snapshot. */
public final class HistoryTest {
    private static final int NONE = -5;

    public static void main(String[] args) {
        promise16Undo();
        promise16UndoTakesBackWholeStates();
        promise16FourStatesAreKept();
        promise17Keep();
        promise18Restore();
        promise18RestoreTakesWholeStates();
        tellingIsNoAct();
        Check.end();
    }

    private static void promise16Undo() {
        Check.about("promise 16");
        NoteThemes x = new NoteThemes();
        Check.due("undo()", x.undo(), NONE);
        x.put(0, 0);
        x.put(9, 9);
        Check.due("undo()", x.undo(), 1);
        Check.due("count(0)", x.count(0), 1);
        Check.due("undo()", x.undo(), 0);
        Check.due("count(0)", x.count(0), 0);
        Check.due("undo()", x.undo(), NONE);
        x.put(5, 5);
        Check.due("note(0, 0)", x.note(0, 0), 5);
        Check.due("undo()", x.undo(), 0);
    }

    private static void promise16UndoTakesBackWholeStates() {
        Check.about("promise 16");
        NoteThemes x = Boards.at(0, 0, 10, 0, 11, 0);
        x.make(0);
        x.make(1);
        x.vote(2, 1, 8);
        x.stick(4, 2);
        Boards.typeAll(x, "1,1");
        String[] states = new String[5];
        states[0] = Boards.state(x);
        x.takeOff(0);
        states[1] = Boards.state(x);
        x.set(0, 0);
        states[2] = Boards.state(x);
        x.load();
        states[3] = Boards.state(x);
        x.drag(0, 2, 2);
        for (int i = 3; i >= 0; i--) {
            Check.due("undo()", x.undo(), i);
            Check.holds("the state " + i, states[i].equals(Boards.state(x)));
        }
        Check.due("the text stays", x.count(12), 3);
    }

    private static void promise16FourStatesAreKept() {
        Check.about("promise 16");
        NoteThemes x = new NoteThemes();
        for (int i = 0; i < 11; i++) {
            x.put(i, 0);
            Check.due("count(11)", x.count(11), Math.min(i + 1, 4));
        }
        for (int i = 3; i >= 0; i--) {
            Check.due("undo()", x.undo(), i);
            Check.due("count(0)", x.count(0), 7 + i);
            Check.due("the last note", x.note(6 + i, 0), 6 + i);
        }
        Check.due("undo()", x.undo(), NONE);
        Check.due("count(0)", x.count(0), 7);
    }

    private static void promise17Keep() {
        Check.about("promise 17");
        NoteThemes x = new NoteThemes();
        Check.due("keep()", x.keep(), 0);
        x.put(0, 0);
        Check.due("keep() in place of the one that was", x.keep(), 1);
        Check.due("it is no act", x.count(11), 1);
        x.put(1, 1);
        x.put(2, 2);
        x.restore();
        Check.due("count(0)", x.count(0), 1);
        Check.due("keep()", x.keep(), 1);
    }

    private static void promise18Restore() {
        Check.about("promise 18");
        NoteThemes x = new NoteThemes();
        Check.due("restore()", x.restore(), NONE);
        Check.due("count(11)", x.count(11), 0);
        x.put(0, 0);
        x.put(1, 1);
        x.keep();
        x.takeOff(0);
        Check.due("restore()", x.restore(), 2);
        Check.due("it is an act", x.count(11), 4);
        Check.due("the snapshot stays", x.restore(), 2);
        x.undo();
        x.undo();
        Check.due("undo of restore", x.count(0), 1);
        Check.due("restore() behind undo", x.restore(), 2);
        NoteThemes empty = new NoteThemes();
        empty.keep();
        Check.due("a snapshot of an empty board is one", empty.restore(), 0);
        Check.due("count(11)", empty.count(11), 1);
    }

    private static void promise18RestoreTakesWholeStates() {
        Check.about("promise 18");
        NoteThemes x = Boards.at(0, 0, 10, 0, 11, 0);
        x.make(0);
        x.make(1);
        x.vote(2, 1, 8);
        x.stick(4, 2);
        x.set(1, 7);
        String state = Boards.state(x);
        x.keep();
        Boards.typeAll(x, "1,1");
        x.load();
        x.set(1, 1);
        x.set(0, 20);
        x.restore();
        Check.holds("the state", state.equals(Boards.state(x)));
        Check.due("the text stays", x.count(12), 3);
        x.vote(2, 1, NONE);
        x.stick(4, 2);
        x.drag(0, 9, 9);
        x.restore();
        Check.holds("the state, untouched by what came", state.equals(Boards.state(x)));
    }

    private static void tellingIsNoAct() {
        Check.about("promises 16 to 27");
        NoteThemes x = Boards.at(0, 0, 3, 0, 6, 0);
        x.make(0);
        String told = Boards.told(x);
        x.ifDragged(1, 20, 10, 0);
        x.ifDragged(1, 20, 10, 2);
        x.reachFor(1);
        x.note(1, 6);
        x.clearText();
        x.keep();
        Check.holds("nothing has changed", told.equals(Boards.told(x)));
    }
}

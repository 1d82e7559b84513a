/** Promises 1, 2 and 4 to 6: notes that are put, taken off and dragged. */
public final class NotesTest {
    private static final int UNKNOWN = -1;
    private static final int BAD_VALUE = -2;
    private static final int FULL = -3;
    private static final int NOT_POSSIBLE = -4;
    private static final int NONE = -5;

    public static void main(String[] args) {
        promise1NewObject();
        promise2Put();
        promise2PutMeetsItsBounds();
        promise4TakeOff();
        promise4TakeOffMovesNumbersUp();
        promise4TakeOffLetsAnEmptyThemeGo();
        promise5Drag();
        promise6DragHeap();
        promise6DragHeapMeetsItsBounds();
        actsAreRecordedAndErrorsChangeNothing();
        Check.end();
    }

    private static void promise1NewObject() {
        Check.about("promise 1");
        NoteThemes x = new NoteThemes();
        int[] due = {0, 0, 0, 0, 24, 0, 0, 0, 3, 4, 2, 0, 0};
        for (int what = 0; what < due.length; what++) {
            Check.due("count(" + what + ")", x.count(what), due[what]);
        }
        Check.due("undo()", x.undo(), NONE);
        Check.due("restore()", x.restore(), NONE);
        Check.due("clearText()", x.clearText(), 0);
        Check.due("note(0, 0)", x.note(0, 0), UNKNOWN);
        Check.due("theme(0, 0)", x.theme(0, 0), UNKNOWN);
    }

    private static void promise2Put() {
        Check.about("promise 2");
        NoteThemes x = new NoteThemes();
        Check.due("put(0, 0)", x.put(0, 0), 0);
        Check.due("put(29, 19)", x.put(29, 19), 1);
        Check.due("put(29, 19) again", x.put(29, 19), 2);
        Check.due("note(1, 0)", x.note(1, 0), 29);
        Check.due("note(1, 1)", x.note(1, 1), 19);
        Check.due("note(2, 2)", x.note(2, 2), 0);
        Check.due("note(2, 4)", x.note(2, 4), NONE);
        Check.due("count(11)", x.count(11), 3);
    }

    private static void promise2PutMeetsItsBounds() {
        Check.about("promise 2");
        NoteThemes x = Boards.alone(19);
        int[][] beyond = {{-1, 0}, {0, -1}, {30, 0}, {0, 20}, {30, 20},
            {Integer.MIN_VALUE, 0}, {0, Integer.MAX_VALUE}};
        for (int[] place : beyond) {
            Check.due("put beyond", x.put(place[0], place[1]), UNKNOWN);
        }
        Check.due("the 20th", x.put(5, 5), 19);
        Check.due("the 21st", x.put(5, 5), FULL);
        Check.due("the 21st, beyond", x.put(30, 5), UNKNOWN);
        Check.due("count(0)", x.count(0), 20);
    }

    private static void promise4TakeOff() {
        Check.about("promise 4");
        NoteThemes x = Boards.at(0, 0, 10, 0, 20, 0);
        x.stick(0, 1);
        x.stick(0, 1);
        x.stick(3, 1);
        x.stick(0, 2);
        Check.due("takeOff(3)", x.takeOff(3), UNKNOWN);
        Check.due("takeOff(-1)", x.takeOff(-1), UNKNOWN);
        Check.due("takeOff(1)", x.takeOff(1), 3);
        Check.due("count(4)", x.count(4), 23);
        Check.due("takeOff(0)", x.takeOff(0), 0);
        Check.due("takeOff(0)", x.takeOff(0), 1);
        Check.due("takeOff(0)", x.takeOff(0), UNKNOWN);
        Check.due("count(4)", x.count(4), 24);
        NoteThemes less = Boards.at(0, 0);
        less.stick(5, 0);
        less.stick(5, 0);
        less.set(1, 1);
        less.set(2, 1);
        Check.due("takeOff(0) when the settings were made less", less.takeOff(0), 2);
    }

    private static void promise4TakeOffMovesNumbersUp() {
        Check.about("promise 4");
        NoteThemes x = Boards.at(1, 2, 10, 3, 20, 4, 29, 19);
        x.stick(2, 3);
        x.make(3);
        x.takeOff(1);
        Check.due("note(0, 0)", x.note(0, 0), 1);
        Check.due("note(1, 0)", x.note(1, 0), 20);
        Check.due("note(1, 1)", x.note(1, 1), 4);
        Check.due("note(1, 4)", x.note(1, 4), NONE);
        Check.due("note(2, 0)", x.note(2, 0), 29);
        Check.due("dots(2, 2)", x.dots(2, 2), 1);
        Check.due("dots(2, 1)", x.dots(2, 1), 0);
        Check.due("note(2, 4)", x.note(2, 4), 0);
        Check.due("note(3, 0)", x.note(3, 0), UNKNOWN);
        Check.due("put", x.put(7, 7), 3);
        Check.due("a new note has no dots", x.note(3, 2), 0);
        Check.due("nor a theme", x.note(3, 4), NONE);
    }

    private static void promise4TakeOffLetsAnEmptyThemeGo() {
        Check.about("promise 4");
        NoteThemes x = Boards.at(0, 0, 10, 0, 20, 0, 21, 0);
        x.make(0);
        x.make(1);
        x.make(2);
        x.vote(1, 2, 6);
        x.vote(4, 1, 5);
        x.takeOff(3);
        Check.due("one of two notes leaves the theme", x.count(2), 3);
        x.takeOff(1);
        Check.due("count(2)", x.count(2), 2);
        Check.due("note(1, 4)", x.note(1, 4), 1);
        Check.due("votes(1, 6)", x.votes(1, 6), 1);
        Check.due("votes(1, 5)", x.votes(1, 5), 0);
    }

    private static void promise5Drag() {
        Check.about("promise 5");
        NoteThemes x = Boards.at(0, 0, 3, 0, 6, 0);
        x.make(0);
        Check.due("drag(1, 3, 0)", x.drag(1, 3, 0), NONE);
        Check.due("drag(3, 0, 0)", x.drag(3, 0, 0), UNKNOWN);
        Check.due("drag(-1, 0, 0)", x.drag(-1, 0, 0), UNKNOWN);
        Check.due("drag(0, 30, 0)", x.drag(0, 30, 0), UNKNOWN);
        Check.due("drag(0, 0, 20)", x.drag(0, 0, 20), UNKNOWN);
        Check.due("drag(0, -1, 0)", x.drag(0, -1, 0), UNKNOWN);
        Check.due("drag(0, 0, -1)", x.drag(0, 0, -1), UNKNOWN);
        Check.due("drag(1, 29, 19)", x.drag(1, 29, 19), 3);
        Check.due("note(1, 0)", x.note(1, 0), 29);
        Check.due("note(1, 1)", x.note(1, 1), 19);
        Check.due("its theme stays", x.note(1, 4), 0);
        Check.due("drag(1, 29, 18)", x.drag(1, 29, 18), 3);
        Check.due("drag(1, 28, 18)", x.drag(1, 28, 18), 3);
        Check.due("drag(1, 3, 0)", x.drag(1, 3, 0), 1);
        Check.due("drag(1, 3, 1), a distance of 4", x.drag(1, 3, 1), 3);
        Check.due("drag(1, 2, 1)", x.drag(1, 2, 1), 2);
    }

    private static void promise6DragHeap() {
        Check.about("promise 6");
        NoteThemes x = Boards.at(5, 5, 20, 5, 6, 5, 7, 7);
        Check.due("dragHeap(0, 9, -5)", x.dragHeap(0, 9, -5), 2);
        Check.due("note(0, 0)", x.note(0, 0), 14);
        Check.due("note(0, 1)", x.note(0, 1), 0);
        Check.due("note(2, 0)", x.note(2, 0), 15);
        Check.due("note(3, 0)", x.note(3, 0), 16);
        Check.due("note(3, 1)", x.note(3, 1), 2);
        Check.due("the other heap stays", x.note(1, 0), 20);
        Check.due("dragHeap(1, -1, -3), to the other one", x.dragHeap(1, -3, -3), 1);
        Check.due("then all go together", x.dragHeap(0, 0, 17), 1);
        Check.due("note(1, 0)", x.note(1, 0), 17);
        Check.due("note(1, 1)", x.note(1, 1), 19);
    }

    private static void promise6DragHeapMeetsItsBounds() {
        Check.about("promise 6");
        NoteThemes x = Boards.at(0, 0, 1, 0, 20, 10);
        Check.due("dragHeap(2, 30, 0)", x.dragHeap(2, 30, 0), UNKNOWN);
        Check.due("dragHeap(-1, 0, 0)", x.dragHeap(-1, 0, 0), UNKNOWN);
        Check.due("dragHeap(0, 30, 0)", x.dragHeap(0, 30, 0), BAD_VALUE);
        Check.due("dragHeap(0, -30, 0)", x.dragHeap(0, -30, 0), BAD_VALUE);
        Check.due("dragHeap(0, 0, 20)", x.dragHeap(0, 0, 20), BAD_VALUE);
        Check.due("dragHeap(0, 0, -20)", x.dragHeap(0, 0, -20), BAD_VALUE);
        Check.due("dragHeap(0, -1, 0)", x.dragHeap(0, -1, 0), NOT_POSSIBLE);
        Check.due("dragHeap(0, 0, -1)", x.dragHeap(0, 0, -1), NOT_POSSIBLE);
        Check.due("dragHeap(0, 29, 0)", x.dragHeap(0, 29, 0), NOT_POSSIBLE);
        Check.due("dragHeap(0, -29, -19)", x.dragHeap(0, -29, -19), NOT_POSSIBLE);
        Check.due("dragHeap(0, 0, 0)", x.dragHeap(0, 0, 0), NONE);
        Check.due("dragHeap(0, 28, 0)", x.dragHeap(0, 28, 0), 2);
        Check.due("dragHeap(0, 0, 19)", x.dragHeap(0, 0, 19), 2);
        NoteThemes one = Boards.at(29, 19);
        Check.due("dragHeap(0, -29, -19)", one.dragHeap(0, -29, -19), 1);
        Check.due("dragHeap(0, 29, 19)", one.dragHeap(0, 29, 19), 1);
        Check.due("dragHeap(0, 1, 0)", one.dragHeap(0, 1, 0), NOT_POSSIBLE);
        Check.due("dragHeap(0, 0, 1)", one.dragHeap(0, 0, 1), NOT_POSSIBLE);
    }

    private static void actsAreRecordedAndErrorsChangeNothing() {
        Check.about("promises 2, 4, 5 and 6");
        NoteThemes x = Boards.alone(20);
        for (int i = 0; i < 4; i++) {
            x.undo();
        }
        x.put(0, 12);
        Check.due("count(11) behind put", x.count(11), 1);
        x.takeOff(16);
        Check.due("count(11) behind takeOff", x.count(11), 2);
        x.drag(0, 1, 0);
        Check.due("count(11) behind drag", x.count(11), 3);
        x.undo();
        x.dragHeap(0, 0, 1);
        Check.due("count(11) behind dragHeap", x.count(11), 3);
        String before = Boards.told(x);
        x.put(30, 0);
        x.takeOff(16);
        x.drag(0, 0, 1);
        x.drag(0, 30, 1);
        x.dragHeap(0, 0, 0);
        x.dragHeap(0, -1, 0);
        x.dragHeap(0, 30, 0);
        x.dragHeap(20, 1, 0);
        Check.holds("errors and NONE change nothing", before.equals(Boards.told(x)));
    }
}

/** Promises 19, 21, 24, 25 and 27: what is told of notes, of heaps, of a drag, of the reach, and counts. */
public final class ToldTest {
    private static final int UNKNOWN = -1;
    private static final int BAD_VALUE = -2;
    private static final int NONE = -5;

    public static void main(String[] args) {
        promise19Note();
        promise19NotesThatHoldTheirHeap();
        promise21Heap();
        promise21MiddleAndWidth();
        promise21HeapsAreNumberedByTheirLowestNotes();
        promise24IfDragged();
        promise24IfDraggedMeetsItsBounds();
        promise25ReachFor();
        promise27Count();
        promise27CountOfDotsLeft();
        Check.end();
    }

    private static void promise19Note() {
        Check.about("promise 19");
        NoteThemes x = Boards.at(20, 0, 5, 6, 5, 9, 5, 6, 5, 13);
        x.stick(0, 1);
        x.stick(3, 1);
        x.make(1);
        int[] due = {5, 6, 2, 1, 0, 2, 0};
        for (int what = 0; what < due.length; what++) {
            Check.due("note(1, " + what + ")", x.note(1, what), due[what]);
        }
        Check.due("note(0, 4)", x.note(0, 4), NONE);
        Check.due("note(0, 5)", x.note(0, 5), 0);
        Check.due("note(4, 3)", x.note(4, 3), 2);
        Check.due("note(1, 7)", x.note(1, 7), BAD_VALUE);
        Check.due("note(1, -1)", x.note(1, -1), BAD_VALUE);
        Check.due("note(5, 7)", x.note(5, 7), UNKNOWN);
        Check.due("note(-1, 0)", x.note(-1, 0), UNKNOWN);
        x.set(0, 0);
        Check.due("only that at the same place is near", x.note(1, 5), 1);
        Check.due("note(2, 5)", x.note(2, 5), 0);
    }

    private static void promise19NotesThatHoldTheirHeap() {
        Check.about("promise 19");
        NoteThemes row = Boards.at(0, 0, 3, 0, 6, 0, 9, 0, 29, 19);
        holding(row, 0, 1, 1, 0, 0);
        NoteThemes ring = Boards.at(0, 0, 3, 0, 3, 3, 0, 3);
        holding(ring, 0, 0, 0, 0);
        NoteThemes star = Boards.at(2, 5, 5, 5, 8, 5, 5, 2, 5, 8);
        holding(star, 0, 1, 0, 0, 0);
        NoteThemes twice = Boards.at(0, 0, 3, 0, 3, 0, 6, 0);
        holding(twice, 0, 0, 0, 0);
        NoteThemes pair = Boards.at(0, 0, 1, 0);
        holding(pair, 0, 0);
        NoteThemes two = Boards.at(0, 0, 10, 10, 3, 0, 13, 10, 6, 0, 16, 10);
        holding(two, 0, 0, 1, 1, 0, 0);
    }

    private static void holding(NoteThemes x, int... due) {
        for (int note = 0; note < due.length; note++) {
            Check.due("note(" + note + ", 6)", x.note(note, 6), due[note]);
        }
    }

    private static void promise21Heap() {
        Check.about("promise 21");
        NoteThemes x = Boards.at(20, 0, 5, 5, 6, 5, 7, 5, 8, 5);
        x.stick(0, 0);
        x.stick(0, 2);
        x.stick(1, 2);
        x.stick(5, 4);
        x.make(1);
        x.belong(1, NONE);
        x.make(0);
        x.belong(2, 1);
        int[] due = {4, 1, 3, 2, 1, 2, 3};
        for (int what = 0; what < due.length; what++) {
            Check.due("heap(1, " + what + ")", x.heap(1, what), due[what]);
        }
        int[] dueAlone = {1, 0, 1, 1, 0, 0, 0};
        for (int what = 0; what < dueAlone.length; what++) {
            Check.due("heap(0, " + what + ")", x.heap(0, what), dueAlone[what]);
        }
        Check.due("heap(1, 7)", x.heap(1, 7), BAD_VALUE);
        Check.due("heap(1, -1)", x.heap(1, -1), BAD_VALUE);
        Check.due("heap(2, 7)", x.heap(2, 7), UNKNOWN);
        Check.due("heap(-1, 0)", x.heap(-1, 0), UNKNOWN);
        Check.due("heap(0, 0) of none", new NoteThemes().heap(0, 0), UNKNOWN);
    }

    private static void promise21MiddleAndWidth() {
        Check.about("promise 21");
        NoteThemes bent = Boards.at(0, 0, 9, 3, 3, 0, 6, 0, 9, 0);
        Check.due("heap(0, 5)", bent.heap(0, 5), 3);
        Check.due("heap(0, 6)", bent.heap(0, 6), 12);
        NoteThemes pair = Boards.at(2, 0, 0, 0);
        Check.due("of several the lowest", pair.heap(0, 5), 0);
        NoteThemes twice = Boards.at(0, 0, 2, 0, 2, 0, 4, 0);
        Check.due("of several at one place the lowest", twice.heap(0, 5), 1);
        NoteThemes far = Boards.at(0, 0, 29, 19);
        far.set(0, 20);
        for (int i = 1; i < 5; i++) {
            far.put(i * 6, i * 4);
        }
        Check.due("heap(0, 0)", far.heap(0, 0), 6);
        Check.due("heap(0, 6)", far.heap(0, 6), 48);
        NoteThemes others = Boards.at(0, 0, 29, 19, 2, 0);
        Check.due("notes of other heaps do not count", others.heap(0, 6), 2);
        Check.due("heap(1, 5)", others.heap(1, 5), 1);
    }

    private static void promise21HeapsAreNumberedByTheirLowestNotes() {
        Check.about("promise 21");
        NoteThemes x = Boards.at(20, 10, 0, 0, 6, 0, 12, 0, 9, 0, 3, 0, 20, 11);
        int[] heapOf = {0, 1, 1, 1, 1, 1, 0};
        for (int note = 0; note < heapOf.length; note++) {
            Check.due("note(" + note + ", 3)", x.note(note, 3), heapOf[note]);
        }
        x.takeOff(5);
        int[] then = {0, 1, 2, 2, 2, 0};
        for (int note = 0; note < then.length; note++) {
            Check.due("note(" + note + ", 3)", x.note(note, 3), then[note]);
        }
        Check.due("heap(2, 1)", x.heap(2, 1), 2);
        Check.due("heap(2, 0)", x.heap(2, 0), 3);
    }

    private static void promise24IfDragged() {
        Check.about("promise 24");
        NoteThemes first = Boards.at(0, 0, 3, 0, 6, 0);
        Check.due("ifDragged(1, 29, 19, 2)", first.ifDragged(1, 29, 19, 2), 2);
        first.set(0, 6);
        Check.due("ifDragged(2, 29, 19, 2) with another reach", first.ifDragged(2, 29, 19, 2), 2);
        first.set(0, 2);
        Check.due("ifDragged(1, 1, 0, 2)", first.ifDragged(1, 1, 0, 2), 0);
        NoteThemes x = Boards.at(0, 0, 3, 0, 6, 0, 20, 10, 22, 10);
        dragged(x, 1, 20, 9, 3, 3, 2);
        dragged(x, 1, 3, 0, 2, 3, 0);
        dragged(x, 0, 29, 0, 3, 1, 2);
        dragged(x, 0, 9, 0, 2, 3, 0);
        dragged(x, 3, 1, 0, 2, 4, 1);
        dragged(x, 0, 12, 19, 3, 1, 2);
        NoteThemes near = Boards.at(0, 0, 3, 0, 6, 0, 10, 0);
        dragged(near, 0, 8, 0, 1, 4, 0);
        dragged(near, 1, 9, 1, 3, 2, 2);
        dragged(near, 1, 7, 1, 3, 2, 1);
    }

    private static void dragged(NoteThemes x, int note, int column, int row, int... due) {
        String call = "ifDragged(" + note + ", " + column + ", " + row + ", ";
        for (int what = 0; what < due.length; what++) {
            Check.due(call + what + ")", x.ifDragged(note, column, row, what), due[what]);
        }
        Check.due(call + "..) leaves the note", x.ifDragged(note, x.note(note, 0), x.note(note, 1), 2), 0);
    }

    private static void promise24IfDraggedMeetsItsBounds() {
        Check.about("promise 24");
        NoteThemes x = Boards.at(0, 0);
        Check.due("ifDragged(1, 0, 0, 3)", x.ifDragged(1, 0, 0, 3), UNKNOWN);
        Check.due("ifDragged(-1, 0, 0, 0)", x.ifDragged(-1, 0, 0, 0), UNKNOWN);
        Check.due("ifDragged(0, 30, 0, 3)", x.ifDragged(0, 30, 0, 3), UNKNOWN);
        Check.due("ifDragged(0, -1, 0, 0)", x.ifDragged(0, -1, 0, 0), UNKNOWN);
        Check.due("ifDragged(0, 0, 20, 0)", x.ifDragged(0, 0, 20, 0), UNKNOWN);
        Check.due("ifDragged(0, 0, -1, 0)", x.ifDragged(0, 0, -1, 0), UNKNOWN);
        Check.due("ifDragged(0, 0, 0, 3)", x.ifDragged(0, 0, 0, 3), BAD_VALUE);
        Check.due("ifDragged(0, 0, 0, -1)", x.ifDragged(0, 0, 0, -1), BAD_VALUE);
        Check.due("ifDragged(0, 29, 19, 1)", x.ifDragged(0, 29, 19, 1), 1);
    }

    private static void promise25ReachFor() {
        Check.about("promise 25");
        NoteThemes none = new NoteThemes();
        Check.due("reachFor(1) of no note", none.reachFor(1), 0);
        Check.due("reachFor(0)", none.reachFor(0), BAD_VALUE);
        Check.due("reachFor(21)", none.reachFor(21), BAD_VALUE);
        Check.due("reachFor(-1)", none.reachFor(-1), BAD_VALUE);
        Check.due("reachFor(20)", none.reachFor(20), 0);
        NoteThemes furthest = Boards.at(0, 0, 29, 19);
        Check.due("the furthest two places", furthest.reachFor(1), 48);
        Check.due("reachFor(2)", furthest.reachFor(2), 0);
        furthest.drag(1, 29, 18);
        Check.due("reachFor(1)", furthest.reachFor(1), 47);
        NoteThemes x = Boards.at(0, 0, 1, 0, 3, 0, 7, 0, 15, 0, 15, 0);
        int[] due = {8, 4, 2, 1, 0, 0};
        for (int heaps = 1; heaps <= due.length; heaps++) {
            Check.due("reachFor(" + heaps + ")", x.reachFor(heaps), due[heaps - 1]);
        }
        x.set(0, 20);
        Check.due("the setting does not matter", x.reachFor(3), 2);
        NoteThemes even = Boards.at(0, 0, 5, 0, 10, 0, 15, 0);
        Check.due("no more than told, though not just so many", even.reachFor(3), 5);
    }

    private static void promise27Count() {
        Check.about("promise 27");
        NoteThemes x = Boards.at(0, 0, 10, 0, 11, 0, 20, 0, 29, 19);
        x.make(0);
        x.make(1);
        x.stick(0, 0);
        x.stick(1, 1);
        x.stick(1, 1);
        x.make(2);
        x.vote(0, 1, 2);
        x.vote(1, 1, 2);
        x.vote(1, 0, 2);
        x.set(0, 5);
        Boards.typeAll(x, "12345");
        int[] due = {5, 4, 3, 3, 21, 1, 1, 3, 5, 4, 2, 4, 5};
        for (int what = 0; what < due.length; what++) {
            Check.due("count(" + what + ")", x.count(what), due[what]);
        }
        Check.due("count(13)", x.count(13), BAD_VALUE);
        Check.due("count(-1)", x.count(-1), BAD_VALUE);
    }

    private static void promise27CountOfDotsLeft() {
        Check.about("promise 27");
        NoteThemes x = Boards.at(0, 0, 10, 0);
        for (int i = 0; i < 2; i++) {
            x.stick(0, 0);
            x.stick(0, 1);
        }
        x.stick(1, 0);
        Check.due("count(4)", x.count(4), 19);
        x.set(1, 2);
        Check.due("none is counted below 0", x.count(4), 9);
        Check.due("count(3)", x.count(3), 5);
        x.set(1, 1);
        Check.due("count(4)", x.count(4), 4);
        x.unstick(0, 0);
        Check.due("count(4)", x.count(4), 4);
        x.set(1, 9);
        Check.due("count(4)", x.count(4), 50);
    }
}

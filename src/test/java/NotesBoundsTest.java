/** The bounds of notes and heaps, sentence by sentence: the terms NOTES and HEAPS, and the promises 1, 2, 4 to 6. */
public final class NotesBoundsTest {
    private static final int UNKNOWN = -1;
    private static final int BAD_VALUE = -2;
    private static final int FULL = -3;
    private static final int NOT_POSSIBLE = -4;
    private static final int NONE = -5;
    private static final int LEAST = Integer.MIN_VALUE;
    private static final int MOST = Integer.MAX_VALUE;

    public static void main(String[] args) {
        terms();
        promise1();
        promise2();
        promise4();
        promise5();
        promise6();
        Check.end();
    }

    // ---- NOTES and HEAPS

    private static void terms() {
        everyPlaceAndThoseBeyond();
        twentyNotesInTheirOrder();
        numbersBehindTheOneTakenOff();
        twentyNotesAtOnePlace();
        distancesInAllDirections();
        nearAtTheReachAndNotBeyond();
        theReachItself();
        chainsOfNotes();
        notesAlone();
        heapsByLowestNotes();
    }

    private static void everyPlaceAndThoseBeyond() {
        Check.sentence("NOTES",
            "The board has 30 columns and 20 rows; a place is a column (0 to 29) and a row (0 to 19).");
        for (int column = -2; column <= 31; column++) {
            for (int row = -2; row <= 21; row++) {
                aPlace(column, row, column >= 0 && column < 30 && row >= 0 && row < 20);
            }
        }
    }

    private static void aPlace(int column, int row, boolean isPlace) {
        String place = "(" + column + ", " + row + ")";
        NoteThemes put = new NoteThemes();
        Check.due("put" + place, put.put(column, row), isPlace ? 0 : UNKNOWN);
        Check.due("its column", put.note(0, 0), isPlace ? column : UNKNOWN);
        Check.due("its row", put.note(0, 1), isPlace ? row : UNKNOWN);
        NoteThemes dragged = Boards.at(15, 10, 14, 9);
        dragged.set(0, 0);
        boolean isThere = column == 15 && row == 10;
        boolean isOnOther = column == 14 && row == 9;
        int heaps = !isPlace ? UNKNOWN : isOnOther ? 1 : 2;
        Check.due("ifDragged to " + place, dragged.ifDragged(0, column, row, 0), heaps);
        Check.due("drag to " + place, dragged.drag(0, column, row), isThere ? NONE : heaps);
        Check.due("its column", dragged.note(0, 0), isPlace ? column : 15);
        Check.due("its row", dragged.note(0, 1), isPlace ? row : 10);
    }

    private static void twentyNotesInTheirOrder() {
        Check.sentence("NOTES", "At most 20 notes are on it, numbered from 0 in the order in which they came");
        NoteThemes x = new NoteThemes();
        for (int i = 0; i < 20; i++) {
            Check.due("put", x.put(29 - i, i), i);
            Check.due("notes", x.count(0), i + 1);
        }
        Check.due("a 21st", x.put(0, 0), FULL);
        Check.due("notes", x.count(0), 20);
        for (int i = 0; i < 20; i++) {
            Check.due("the column of the note " + i, x.note(i, 0), 29 - i);
            Check.due("the row of the note " + i, x.note(i, 1), i);
        }
        Check.due("the note 20", x.note(20, 0), UNKNOWN);
        x.takeOff(7);
        Check.due("room for one", x.put(2, 3), 19);
        Check.due("its column", x.note(19, 0), 2);
        Check.due("and for no other", x.put(2, 3), FULL);
    }

    private static void numbersBehindTheOneTakenOff() {
        Check.sentence("NOTES", "(if one is taken off, those behind it get numbers that are 1 less)");
        for (int gone = 0; gone < 20; gone++) {
            NoteThemes x = Boards.themes(20, 8);
            for (int person = 0; person < 6; person++) {
                x.stick(person, person * 3);
            }
            x.takeOff(gone);
            Check.due("notes", x.count(0), 19);
            for (int note = 0; note < 19; note++) {
                isTheFormer(x, note, note < gone ? note : note + 1, gone);
            }
            Check.due("the note 19", x.note(19, 0), UNKNOWN);
        }
    }

    private static void isTheFormer(NoteThemes x, int note, int former, int gone) {
        String which = "without the note " + gone + " the note " + note + ": ";
        Check.due(which + "column", x.note(note, 0), former % 7 * 4);
        Check.due(which + "row", x.note(note, 1), former / 7 * 4);
        Check.due(which + "theme", x.note(note, 4), former >= 8 ? NONE : former > gone ? former - 1 : former);
        for (int person = 0; person < 6; person++) {
            Check.due(which + "dots", x.dots(person, note), former == person * 3 ? 1 : 0);
        }
    }

    private static void twentyNotesAtOnePlace() {
        Check.sentence("NOTES", "Several can lie at one place.");
        NoteThemes x = new NoteThemes();
        x.set(0, 0);
        for (int i = 0; i < 20; i++) {
            Check.due("put(29, 19)", x.put(29, 19), i);
        }
        Check.due("one heap", x.count(1), 1);
        Check.due("of 20 notes", x.heap(0, 0), 20);
        Check.due("all near to the last", x.note(19, 5), 19);
        Check.due("with no distance", x.heap(0, 6), 0);
        Check.due("none holds it together", x.note(0, 6), 0);
        Check.due("dragged away", x.drag(19, 0, 0), 2);
        Check.due("and back onto the others", x.drag(19, 29, 19), 1);
    }

    private static void distancesInAllDirections() {
        Check.sentence("NOTES",
            "The distance of two notes is the difference of their columns and that of their rows, without signs, together.");
        int[] signs = {-1, 0, 1};
        for (int right : signs) {
            for (int down : signs) {
                NoteThemes x = Boards.at(10, 10, 10 + 5 * right, 10 + 7 * down);
                x.set(0, 20);
                Check.due("the distance", x.heap(0, 6), 5 * Math.abs(right) + 7 * Math.abs(down));
                Check.due("the reach for one heap", x.reachFor(1), 5 * Math.abs(right) + 7 * Math.abs(down));
            }
        }
        Check.due("corner to corner", Boards.at(0, 0, 29, 19).reachFor(1), 48);
        Check.due("the other corners", Boards.at(29, 0, 0, 19).reachFor(1), 48);
    }

    private static void nearAtTheReachAndNotBeyond() {
        Check.sentence("NOTES", "Two notes are near if their distance is not more than the reach");
        for (int reach = 0; reach <= 20; reach++) {
            for (int down = 0; down <= Math.min(reach + 1, 19); down++) {
                NoteThemes at = Boards.at(0, 0, Math.max(reach - down, 0), Math.min(down, reach));
                NoteThemes beyond = Boards.at(reach + 1 - down, 0, 0, down);
                at.set(0, reach);
                beyond.set(0, reach);
                Check.due("at the reach " + reach, at.note(0, 5), 1);
                Check.due("heaps at the reach " + reach, at.count(1), 1);
                Check.due("beyond the reach " + reach, beyond.note(0, 5), 0);
                Check.due("heaps beyond the reach " + reach, beyond.count(1), 2);
            }
        }
    }

    private static void theReachItself() {
        Check.sentence("NOTES", "(the setting 0; 0 to 20; 3 at first)");
        NoteThemes x = Boards.at(0, 0, 3, 0, 7, 0);
        Check.due("at first", x.count(8), 3);
        Check.due("a distance of 3 and one of 4", x.count(1), 2);
        Check.due("set(0, -1)", x.set(0, -1), BAD_VALUE);
        Check.due("set(0, 21)", x.set(0, 21), BAD_VALUE);
        Check.due("set(0, 20)", x.set(0, 20), 3);
        Check.due("set(0, 0)", x.set(0, 0), 20);
        Check.due("heaps", x.count(1), 3);
    }

    private static void chainsOfNotes() {
        Check.sentence("HEAPS", "Notes hang together if one leads to the other from near note to near note.");
        NoteThemes x = new NoteThemes();
        x.set(0, 1);
        // The notes of the chain come in a mixed order, so that heaps are joined from both sides.
        for (int i = 0; i < 20; i++) {
            x.put(i * 7 % 20 + 5, 9);
        }
        Check.due("a chain of 20", x.count(1), 1);
        Check.due("its notes", x.heap(0, 0), 20);
        Check.due("from end to end", x.heap(0, 6), 19);
        Check.due("an end has one near", x.note(0, 5), 1);
        Check.due("a link has two", x.note(1, 5), 2);
        Check.due("without a link", x.drag(1, 0, 0), 3);
        Check.due("the end is in the heap 0", x.note(0, 3), 0);
        Check.due("the other end is not", x.note(17, 3), 2);
        Check.due("the link is in the heap 1", x.note(1, 3), 1);
    }

    private static void notesAlone() {
        Check.sentence("HEAPS", "The notes that hang together are a heap; each note is in one, perhaps alone.");
        for (int notes = 0; notes <= 20; notes++) {
            NoteThemes x = Boards.alone(notes);
            Check.due("heaps of " + notes + " notes alone", x.count(1), notes);
            Check.due("alone", x.count(7), notes);
            for (int heap = 0; heap < notes; heap++) {
                Check.due("notes of the heap " + heap, x.heap(heap, 0), 1);
                Check.due("the heap of the note " + heap, x.note(heap, 3), heap);
            }
            Check.due("one heap more", x.heap(notes, 0), UNKNOWN);
            Check.due("a heap below", x.heap(-1, 0), UNKNOWN);
        }
    }

    private static void heapsByLowestNotes() {
        Check.sentence("HEAPS", "Heaps are numbered by their lowest notes, from 0.");
        NoteThemes x = Boards.at(29, 19, 0, 0, 10, 0, 29, 18, 12, 0, 0, 1);
        heapsAre(x, 0, 1, 2, 0, 2, 1);
        x.drag(3, 10, 1);
        heapsAre(x, 0, 1, 2, 2, 2, 1);
        x.drag(0, 11, 0);
        heapsAre(x, 0, 1, 0, 0, 0, 1);
        x.drag(1, 29, 0);
        heapsAre(x, 0, 1, 0, 0, 0, 2);
        x.takeOff(1);
        heapsAre(x, 0, 0, 0, 0, 1);
    }

    private static void heapsAre(NoteThemes x, int... due) {
        for (int note = 0; note < due.length; note++) {
            Check.due("the heap of the note " + note, x.note(note, 3), due[note]);
            if (due[note] == note) {
                Check.due("the lowest note of it", x.heap(due[note], 1), note);
            }
        }
    }

    // ---- Promise 1

    private static void promise1() {
        Check.sentence("Promise 1", "Creates an empty board.");
        int[] counts = {0, 0, 0, 0, 24, 0, 0, 0, 3, 4, 2, 0, 0};
        NoteThemes told = new NoteThemes();
        for (int what = 0; what < counts.length; what++) {
            Check.due("count(" + what + ")", told.count(what), counts[what]);
        }
        for (int heaps = 1; heaps <= 20; heaps++) {
            Check.due("reachFor(" + heaps + ")", told.reachFor(heaps), 0);
        }
        Compare.unchanged(Before.EMPTY, "load()", -100, x -> x.load());
        Compare.unchanged(Before.EMPTY, "takeOff(0)", UNKNOWN, x -> x.takeOff(0));
        Compare.unchanged(Before.EMPTY, "drag(0, 0, 0)", UNKNOWN, x -> x.drag(0, 0, 0));
        Compare.unchanged(Before.EMPTY, "dragHeap(0, 0, 0)", UNKNOWN, x -> x.dragHeap(0, 0, 0));
        Compare.unchanged(Before.EMPTY, "stick(0, 0)", UNKNOWN, x -> x.stick(0, 0));
        Compare.unchanged(Before.EMPTY, "unstick(0, 0)", UNKNOWN, x -> x.unstick(0, 0));
        Compare.unchanged(Before.EMPTY, "make(0)", UNKNOWN, x -> x.make(0));
        Compare.unchanged(Before.EMPTY, "merge(0, 1)", UNKNOWN, x -> x.merge(0, 1));
        Compare.unchanged(Before.EMPTY, "belong(0, NONE)", UNKNOWN, x -> x.belong(0, NONE));
        Compare.unchanged(Before.EMPTY, "vote(0, 0, NONE)", UNKNOWN, x -> x.vote(0, 0, NONE));
        Compare.unchanged(Before.EMPTY, "clearText()", 0, x -> x.clearText());
        Compare.unchanged(Before.EMPTY, "undo()", NONE, x -> x.undo());
        Compare.unchanged(Before.EMPTY, "restore()", NONE, x -> x.restore());
        Compare.unchanged(Before.EMPTY, "note(0, 0)", UNKNOWN, x -> x.note(0, 0));
        Compare.unchanged(Before.EMPTY, "dots(0, 0)", UNKNOWN, x -> x.dots(0, 0));
        Compare.unchanged(Before.EMPTY, "heap(0, 0)", UNKNOWN, x -> x.heap(0, 0));
        Compare.unchanged(Before.EMPTY, "theme(0, 0)", UNKNOWN, x -> x.theme(0, 0));
        Compare.unchanged(Before.EMPTY, "votes(0, 0)", UNKNOWN, x -> x.votes(0, 0));
        Compare.unchanged(Before.EMPTY, "ifDragged(0, 0, 0, 0)", UNKNOWN, x -> x.ifDragged(0, 0, 0, 0));
        Compare.unchanged(Before.EMPTY, "nearest(0)", UNKNOWN, x -> x.nearest(0));
    }

    // ---- Promise 2: put

    private static void promise2() {
        Check.sentence("Promise 2", "Puts a note onto the board. This is an act.");
        Compare.recorded(Before.EMPTY, "put(0, 0)", 0, x -> x.put(0, 0));
        Compare.recorded(Before.SOME, "put(29, 19)", Before.SOME_NOTES, x -> x.put(29, 19));
        NoteThemes made = Before.SOME.make();
        made.put(28, 17);
        Check.due("a new note has no dots", made.note(Before.SOME_NOTES, 2), 0);
        Check.due("nor a theme", made.note(Before.SOME_NOTES, 4), NONE);

        Check.sentence("Promise 2", "`column`: 0 to 29");
        Compare.unchanged(Before.SOME, "put(-1, 0)", UNKNOWN, x -> x.put(-1, 0));
        Compare.unchanged(Before.SOME, "put(30, 0)", UNKNOWN, x -> x.put(30, 0));
        Check.due("put(0, 7)", new NoteThemes().put(0, 7), 0);
        Check.due("put(29, 7)", new NoteThemes().put(29, 7), 0);
        Check.due("put(LEAST, 7)", new NoteThemes().put(LEAST, 7), UNKNOWN);
        Check.due("put(MOST, 7)", new NoteThemes().put(MOST, 7), UNKNOWN);

        Check.sentence("Promise 2", "`row`: 0 to 19");
        Compare.unchanged(Before.SOME, "put(0, -1)", UNKNOWN, x -> x.put(0, -1));
        Compare.unchanged(Before.SOME, "put(0, 20)", UNKNOWN, x -> x.put(0, 20));
        Check.due("put(7, 0)", new NoteThemes().put(7, 0), 0);
        Check.due("put(7, 19)", new NoteThemes().put(7, 19), 0);
        Check.due("put(7, LEAST)", new NoteThemes().put(7, LEAST), UNKNOWN);
        Check.due("put(7, MOST)", new NoteThemes().put(7, MOST), UNKNOWN);

        Check.sentence("Promise 2", "Returns its number;");
        NoteThemes numbered = Boards.alone(19);
        Check.due("the last there is room for", numbered.put(0, 19), 19);
        numbered.takeOff(19);
        numbered.takeOff(0);
        Check.due("a number that was free", numbered.put(0, 19), 18);

        Check.sentence("Promise 2", "UNKNOWN;");
        Compare.unchanged(Before.EMPTY, "put(30, 20)", UNKNOWN, x -> x.put(30, 20));
        Compare.unchanged(Before.FULL, "put(30, 0) ahead of FULL", UNKNOWN, x -> x.put(30, 0));
        Compare.unchanged(Before.FULL, "put(0, -1) ahead of FULL", UNKNOWN, x -> x.put(0, -1));

        Check.sentence("Promise 2", "FULL if there are 20.");
        Compare.unchanged(Before.FULL, "put(0, 0)", FULL, x -> x.put(0, 0));
        Compare.unchanged(Before.FULL, "put(29, 19)", FULL, x -> x.put(29, 19));
    }

    // ---- Promise 4: takeOff

    private static void promise4() {
        Check.sentence("Promise 4", "Takes a note off. This is an act.");
        Compare.recorded(Before.SOME, "takeOff(4)", 0, x -> x.takeOff(4));
        Compare.recorded(Before.FULL, "takeOff(0)", 4, x -> x.takeOff(0));
        NoteThemes last = Boards.at(5, 5);
        last.takeOff(0);
        Check.due("notes when the only one is off", last.count(0), 0);
        Check.due("heaps", last.count(1), 0);

        Check.sentence("Promise 4", "`note`: a note");
        Compare.unchanged(Before.SOME, "takeOff(-1)", UNKNOWN, x -> x.takeOff(-1));
        Compare.unchanged(Before.SOME, "takeOff(5)", UNKNOWN, x -> x.takeOff(Before.SOME_NOTES));
        Compare.unchanged(Before.FULL, "takeOff(20)", UNKNOWN, x -> x.takeOff(20));
        Check.due("takeOff(LEAST)", Boards.at(0, 0).takeOff(LEAST), UNKNOWN);
        Check.due("takeOff(MOST)", Boards.at(0, 0).takeOff(MOST), UNKNOWN);
        Check.due("takeOff(NONE)", Boards.at(0, 0).takeOff(NONE), UNKNOWN);

        Check.sentence("Promise 4", "Returns how many dots come back; UNKNOWN.");
        NoteThemes dotted = Boards.at(0, 0, 0, 0);
        dotted.set(1, 9);
        dotted.set(2, 9);
        for (int i = 0; i < 54; i++) {
            dotted.stick(i % 6, 1);
        }
        Check.due("one without dots", dotted.takeOff(0), 0);
        Check.due("none is left then", dotted.count(4), 0);
        Check.due("all the dots that there are", dotted.takeOff(0), 54);
        Check.due("all are back", dotted.count(4), 54);
        Check.due("the empty board", dotted.takeOff(0), UNKNOWN);
        NoteThemes less = Boards.at(0, 0);
        less.stick(3, 0);
        less.stick(3, 0);
        less.set(1, 1);
        less.set(2, 1);
        Check.due("dots that stayed when the settings were made less", less.takeOff(0), 2);
        NoteThemes all = Boards.at(0, 0);
        all.set(1, 9);
        all.set(2, 9);
        for (int i = 0; i < 54; i++) {
            all.stick(i % 6, 0);
        }
        all.set(1, 1);
        Check.due("all of them, though there are but 6 now", all.takeOff(0), 54);
        Check.due("the 6 are left", all.count(4), 6);
    }

    // ---- Promise 5: drag

    private static void promise5() {
        Check.sentence("Promise 5", "Drags a note to a place. This is an act.");
        Compare.recorded(Before.SOME, "drag(1, 29, 0)", 5, x -> x.drag(1, 29, 0));
        Compare.recorded(Before.FULL, "drag(0, 1, 0)", 19, x -> x.drag(0, 1, 0));
        NoteThemes dragged = Before.SOME.make();
        dragged.drag(1, 29, 0);
        Check.due("its dots go with it", dragged.dots(0, 1), 2);
        Check.due("its theme too", dragged.note(1, 4), 0);

        Check.sentence("Promise 5", "`note`: a note");
        Compare.unchanged(Before.SOME, "drag(-1, 1, 1)", UNKNOWN, x -> x.drag(-1, 1, 1));
        Compare.unchanged(Before.SOME, "drag(5, 1, 1)", UNKNOWN, x -> x.drag(Before.SOME_NOTES, 1, 1));
        Compare.unchanged(Before.FULL, "drag(20, 1, 1)", UNKNOWN, x -> x.drag(20, 1, 1));
        Check.due("drag(LEAST, 1, 1)", Boards.at(0, 0).drag(LEAST, 1, 1), UNKNOWN);
        Check.due("drag(MOST, 1, 1)", Boards.at(0, 0).drag(MOST, 1, 1), UNKNOWN);

        Check.sentence("Promise 5", "`column`: 0 to 29");
        Compare.unchanged(Before.SOME, "drag(0, -1, 0)", UNKNOWN, x -> x.drag(0, -1, 0));
        Compare.unchanged(Before.SOME, "drag(0, 30, 0)", UNKNOWN, x -> x.drag(0, 30, 0));
        Check.due("drag(0, 0, 9)", Boards.at(9, 9).drag(0, 0, 9), 1);
        Check.due("drag(0, 29, 9)", Boards.at(9, 9).drag(0, 29, 9), 1);
        Check.due("drag(0, LEAST, 9)", Boards.at(9, 9).drag(0, LEAST, 9), UNKNOWN);
        Check.due("drag(0, MOST, 9)", Boards.at(9, 9).drag(0, MOST, 9), UNKNOWN);

        Check.sentence("Promise 5", "`row`: 0 to 19");
        Compare.unchanged(Before.SOME, "drag(0, 0, -1)", UNKNOWN, x -> x.drag(0, 0, -1));
        Compare.unchanged(Before.SOME, "drag(0, 0, 20)", UNKNOWN, x -> x.drag(0, 0, 20));
        Check.due("drag(0, 9, 0)", Boards.at(9, 9).drag(0, 9, 0), 1);
        Check.due("drag(0, 9, 19)", Boards.at(9, 9).drag(0, 9, 19), 1);
        Check.due("drag(0, 9, LEAST)", Boards.at(9, 9).drag(0, 9, LEAST), UNKNOWN);
        Check.due("drag(0, 9, MOST)", Boards.at(9, 9).drag(0, 9, MOST), UNKNOWN);

        Check.sentence("Promise 5", "Returns how many heaps there are then;");
        Check.due("the only note", Boards.at(0, 0).drag(0, 29, 19), 1);
        Check.due("onto another", Boards.at(0, 0, 9, 9).drag(0, 9, 9), 1);
        Check.due("away from another", Boards.at(9, 9, 9, 9).drag(0, 0, 0), 2);
        Check.due("between two", Boards.at(0, 0, 6, 0, 20, 0).drag(2, 3, 0), 1);
        Check.due("out from between two", Boards.at(0, 0, 6, 0, 3, 0).drag(2, 20, 0), 3);
        Check.due("all 20 alone", Boards.alone(20).drag(19, 29, 19), 20);

        Check.sentence("Promise 5", "UNKNOWN (note or place);");
        Compare.unchanged(Before.SOME, "drag(5, 30, 20)", UNKNOWN, x -> x.drag(Before.SOME_NOTES, 30, 20));
        Compare.unchanged(Before.EMPTY, "drag(0, 0, 0)", UNKNOWN, x -> x.drag(0, 0, 0));

        Check.sentence("Promise 5", "NONE if it is there.");
        Compare.unchanged(Before.SOME, "drag(4, 29, 19)", NONE, x -> x.drag(4, 29, 19));
        Compare.unchanged(Before.FULL, "drag(0, 0, 0)", NONE, x -> x.drag(0, 0, 0));
        Check.due("only the column is the same", Boards.at(9, 9).drag(0, 9, 8), 1);
        Check.due("only the row is the same", Boards.at(9, 9).drag(0, 8, 9), 1);
        Check.due("where another one is", Boards.at(9, 9, 0, 0).drag(0, 0, 0), 1);
    }

    // ---- Promise 6: dragHeap

    private static void promise6() {
        Check.sentence("Promise 6", "Drags a heap, all its notes alike. This is an act.");
        Compare.recorded(Before.SOME, "dragHeap(0, 1, 1)", 3, x -> x.dragHeap(0, 1, 1));
        Compare.recorded(Before.FULL, "dragHeap(19, -1, -1)", 20, x -> x.dragHeap(19, -1, -1));
        NoteThemes x = Before.SOME.make();
        x.dragHeap(0, 2, 5);
        int[][] places = {{2, 5}, {5, 5}, {8, 5}, {20, 10}, {29, 19}};
        for (int note = 0; note < places.length; note++) {
            Check.due("the column of the note " + note, x.note(note, 0), places[note][0]);
            Check.due("the row of the note " + note, x.note(note, 1), places[note][1]);
        }

        Check.sentence("Promise 6", "`heap`: a heap");
        Compare.unchanged(Before.SOME, "dragHeap(-1, 1, 0)", UNKNOWN, y -> y.dragHeap(-1, 1, 0));
        Compare.unchanged(Before.SOME, "dragHeap(3, 1, 0)", UNKNOWN, y -> y.dragHeap(Before.SOME_HEAPS, 1, 0));
        Compare.unchanged(Before.FULL, "dragHeap(20, 1, 0)", UNKNOWN, y -> y.dragHeap(20, 1, 0));
        Check.due("dragHeap(LEAST, 1, 0)", Boards.at(0, 0).dragHeap(LEAST, 1, 0), UNKNOWN);
        Check.due("dragHeap(MOST, 1, 0)", Boards.at(0, 0).dragHeap(MOST, 1, 0), UNKNOWN);
        dragHeapBounds();
        dragHeapAnswers();
    }

    private static void dragHeapBounds() {
        Check.sentence("Promise 6",
            "`right`: by how many columns to the right (to the left, if it is below 0), -29 to 29");
        NoteThemes right = Boards.at(0, 10);
        Check.due("dragHeap(0, 30, 0)", right.dragHeap(0, 30, 0), BAD_VALUE);
        Check.due("dragHeap(0, -30, 0)", right.dragHeap(0, -30, 0), BAD_VALUE);
        Check.due("dragHeap(0, MOST, 0)", right.dragHeap(0, MOST, 0), BAD_VALUE);
        Check.due("dragHeap(0, LEAST, 0)", right.dragHeap(0, LEAST, 0), BAD_VALUE);
        Check.due("dragHeap(0, 29, 0)", right.dragHeap(0, 29, 0), 1);
        Check.due("its column", right.note(0, 0), 29);
        Check.due("dragHeap(0, -30, 0) from there", right.dragHeap(0, -30, 0), BAD_VALUE);
        Check.due("dragHeap(0, -29, 0)", right.dragHeap(0, -29, 0), 1);
        Check.due("its column", right.note(0, 0), 0);
        Check.due("its row", right.note(0, 1), 10);

        Check.sentence("Promise 6", "`down`: by how many rows downward (upward, if it is below 0), -19 to 19");
        NoteThemes down = Boards.at(10, 0);
        Check.due("dragHeap(0, 0, 20)", down.dragHeap(0, 0, 20), BAD_VALUE);
        Check.due("dragHeap(0, 0, -20)", down.dragHeap(0, 0, -20), BAD_VALUE);
        Check.due("dragHeap(0, 0, MOST)", down.dragHeap(0, 0, MOST), BAD_VALUE);
        Check.due("dragHeap(0, 0, LEAST)", down.dragHeap(0, 0, LEAST), BAD_VALUE);
        Check.due("dragHeap(0, 0, 19)", down.dragHeap(0, 0, 19), 1);
        Check.due("its row", down.note(0, 1), 19);
        Check.due("dragHeap(0, 0, -20) from there", down.dragHeap(0, 0, -20), BAD_VALUE);
        Check.due("dragHeap(0, 0, -19)", down.dragHeap(0, 0, -19), 1);
        Check.due("its row", down.note(0, 1), 0);
        Check.due("its column", down.note(0, 0), 10);
    }

    private static void dragHeapAnswers() {
        Check.sentence("Promise 6", "Returns how many heaps there are then;");
        Check.due("the only heap", Boards.at(0, 0, 1, 0).dragHeap(0, 28, 19), 1);
        Check.due("to another heap, just near enough", Boards.at(0, 0, 10, 0).dragHeap(0, 7, 0), 1);
        Check.due("to another heap, not near enough", Boards.at(0, 0, 10, 0).dragHeap(0, 6, 0), 2);
        Check.due("all 20 alone", Boards.alone(20).dragHeap(19, 9, 11), 20);

        Check.sentence("Promise 6", "UNKNOWN; BAD_VALUE;");
        Compare.unchanged(Before.EMPTY, "dragHeap(0, 30, 0)", UNKNOWN, x -> x.dragHeap(0, 30, 0));
        Compare.unchanged(Before.SOME, "dragHeap(3, 30, 20)", UNKNOWN, x -> x.dragHeap(Before.SOME_HEAPS, 30, 20));
        Compare.unchanged(Before.SOME, "dragHeap(3, 0, 0)", UNKNOWN, x -> x.dragHeap(Before.SOME_HEAPS, 0, 0));
        Compare.unchanged(Before.SOME, "dragHeap(3, 29, 19)", UNKNOWN, x -> x.dragHeap(Before.SOME_HEAPS, 29, 19));
        Compare.unchanged(Before.SOME, "dragHeap(0, 30, 0)", BAD_VALUE, x -> x.dragHeap(0, 30, 0));
        Compare.unchanged(Before.SOME, "dragHeap(0, -30, 0)", BAD_VALUE, x -> x.dragHeap(0, -30, 0));
        Compare.unchanged(Before.SOME, "dragHeap(0, 0, 20)", BAD_VALUE, x -> x.dragHeap(0, 0, 20));
        Compare.unchanged(Before.SOME, "dragHeap(0, 0, -20)", BAD_VALUE, x -> x.dragHeap(0, 0, -20));
        Compare.unchanged(Before.SOME, "dragHeap(0, -1, 20)", BAD_VALUE, x -> x.dragHeap(0, -1, 20));

        Check.sentence("Promise 6", "NOT_POSSIBLE if a note would be beyond the board;");
        Compare.unchanged(Before.SOME, "dragHeap(0, -1, 0)", NOT_POSSIBLE, x -> x.dragHeap(0, -1, 0));
        Compare.unchanged(Before.SOME, "dragHeap(0, 0, -1)", NOT_POSSIBLE, x -> x.dragHeap(0, 0, -1));
        Compare.unchanged(Before.SOME, "dragHeap(2, 1, 0)", NOT_POSSIBLE, x -> x.dragHeap(2, 1, 0));
        Compare.unchanged(Before.SOME, "dragHeap(2, 0, 1)", NOT_POSSIBLE, x -> x.dragHeap(2, 0, 1));
        Compare.unchanged(Before.SOME, "dragHeap(0, 24, 0), only for the last", NOT_POSSIBLE, x -> x.dragHeap(0, 24, 0));
        Compare.unchanged(Before.SOME, "dragHeap(1, 10, 5)", NOT_POSSIBLE, x -> x.dragHeap(1, 10, 5));
        Compare.unchanged(Before.SOME, "dragHeap(1, 5, 10)", NOT_POSSIBLE, x -> x.dragHeap(1, 5, 10));
        Compare.unchanged(Before.FULL, "dragHeap(0, 29, -19)", NOT_POSSIBLE, x -> x.dragHeap(0, 29, -19));
        Check.due("just to the edge", Before.SOME.make().dragHeap(0, 23, 0), 3);
        Check.due("just to the edges", Before.SOME.make().dragHeap(1, 9, 9), 2);
        Check.due("just to the other edges", Before.SOME.make().dragHeap(1, -20, -10), 2);
        Check.due("a note of another heap does not matter", Before.SOME.make().dragHeap(1, 1, 1), 3);

        Check.sentence("Promise 6", "NONE if both are 0.");
        Compare.unchanged(Before.SOME, "dragHeap(2, 0, 0)", NONE, x -> x.dragHeap(2, 0, 0));
        Compare.unchanged(Before.FULL, "dragHeap(0, 0, 0)", NONE, x -> x.dragHeap(0, 0, 0));
        Check.due("only one is 0", Before.SOME.make().dragHeap(1, 0, 1), 3);
        Check.due("only the other is 0", Before.SOME.make().dragHeap(1, 1, 0), 3);
    }
}

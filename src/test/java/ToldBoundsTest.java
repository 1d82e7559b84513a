/** The bounds of what is told, sentence by sentence: the promises 19 and 21 to 27. */
public final class ToldBoundsTest {
    private static final int UNKNOWN = -1;
    private static final int BAD_VALUE = -2;
    private static final int NONE = -5;
    private static final int LEAST = Integer.MIN_VALUE;
    private static final int MOST = Integer.MAX_VALUE;

    public static void main(String[] args) {
        promise19();
        promise21();
        promise22();
        promise23();
        promise24();
        promise25();
        promise26();
        promise27();
        Check.end();
    }

    // ---- Promise 19: note

    private static void promise19() {
        Check.sentence("Promise 19", "`note`: a note");
        Compare.unchanged(Before.SOME, "note(-1, 0)", UNKNOWN, x -> x.note(-1, 0));
        Compare.unchanged(Before.SOME, "note(5, 0)", UNKNOWN, x -> x.note(Before.SOME_NOTES, 0));
        Check.due("the last of 20", Before.FULL.make().note(19, 0), 29);
        Check.due("note(20, 0)", Before.FULL.make().note(20, 0), UNKNOWN);
        Check.due("note(LEAST, 0)", Boards.at(0, 0).note(LEAST, 0), UNKNOWN);
        Check.due("note(MOST, 0)", Boards.at(0, 0).note(MOST, 0), UNKNOWN);

        Check.sentence("Promise 19", "`what`: 0 for its column, 1 for its row, 2 for its dots, 3 for its heap,");
        NoteThemes corners = Boards.at(0, 0, 29, 19, 29, 0, 0, 19);
        corners.stick(0, 3);
        corners.stick(5, 3);
        int[][] due = {{0, 0, 0, 0}, {29, 19, 0, 1}, {29, 0, 0, 2}, {0, 19, 2, 3}};
        for (int note = 0; note < 4; note++) {
            for (int what = 0; what < 4; what++) {
                Check.due("note(" + note + ", " + what + ")", corners.note(note, what), due[note][what]);
            }
        }

        Check.sentence("Promise 19", "4 for its theme (NONE without one),");
        Check.due("the last theme", Before.FULL.make().note(7, 4), 7);
        Check.due("none", Before.FULL.make().note(8, 4), NONE);
        Compare.unchanged(Before.SOME, "note(4, 4)", NONE, x -> x.note(4, 4));
        notesNearAndHolding();

        Check.sentence("Promise 19", "Returns the number; UNKNOWN; BAD_VALUE.");
        Compare.unchanged(Before.SOME, "note(0, -1)", BAD_VALUE, x -> x.note(0, -1));
        Compare.unchanged(Before.SOME, "note(0, 7)", BAD_VALUE, x -> x.note(0, 7));
        Compare.unchanged(Before.SOME, "note(1, 6)", 1, x -> x.note(1, 6));
        Compare.unchanged(Before.EMPTY, "note(0, 7)", UNKNOWN, x -> x.note(0, 7));
        Compare.unchanged(Before.SOME, "note(5, 7)", UNKNOWN, x -> x.note(Before.SOME_NOTES, 7));
        Check.due("note(0, LEAST)", Boards.at(0, 0).note(0, LEAST), BAD_VALUE);
        Check.due("note(0, MOST)", Boards.at(0, 0).note(0, MOST), BAD_VALUE);
    }

    private static void notesNearAndHolding() {
        Check.sentence("Promise 19", "5 for how many notes are near to it,");
        Check.due("the note itself does not count", Boards.at(0, 0).note(0, 5), 0);
        NoteThemes some = Boards.at(9, 9, 9, 12, 10, 11, 9, 13, 6, 9, 5, 9, 9, 9);
        Check.due("at a distance of 3 and at the same place, not at 4", some.note(0, 5), 4);
        some.set(0, 4);
        Check.due("at a distance of 4 too", some.note(0, 5), 6);
        some.set(0, 0);
        Check.due("only at the same place", some.note(0, 5), 1);
        Check.due("not by way of others", Boards.at(0, 0, 3, 0, 6, 0).note(0, 5), 1);

        Check.sentence("Promise 19", "6 for whether it alone holds its heap together: taken off, the others of its heap"
            + " would be in two heaps or more (1, otherwise 0)");
        Check.due("alone: no others", Boards.at(0, 0, 29, 19).note(0, 6), 0);
        Check.due("of two: one heap of one", Boards.at(0, 0, 1, 0).note(0, 6), 0);
        Check.due("the middle of three: two heaps", Boards.at(0, 0, 6, 0, 3, 0).note(2, 6), 1);
        Check.due("an end of three", Boards.at(0, 0, 6, 0, 3, 0).note(0, 6), 0);
        Check.due("in the middle of four: more than two", Boards.at(9, 9, 12, 9, 6, 9, 9, 12, 9, 6).note(0, 6), 1);
        Check.due("the outer ones are near as well", Boards.at(9, 9, 10, 9, 8, 9).note(0, 6), 0);
        Check.due("another is at the same place", Boards.at(0, 0, 6, 0, 3, 0, 3, 0).note(2, 6), 0);
        Check.due("another heap does not count", Boards.at(0, 0, 1, 0, 20, 0, 23, 0).note(0, 6), 0);
        Check.due("nor do heaps that are apart already", Boards.at(0, 0, 9, 0, 18, 0).note(1, 6), 0);
        NoteThemes themes = Boards.at(0, 0, 3, 0, 6, 0);
        themes.make(0);
        themes.belong(0, NONE);
        themes.belong(2, NONE);
        Check.due("the only one of its theme", themes.note(1, 6), 1);
        Check.due("its theme stays all the same", themes.count(2), 1);
    }

    // ---- Promise 21: heap

    private static void promise21() {
        Check.sentence("Promise 21", "`heap`: a heap");
        Compare.unchanged(Before.SOME, "heap(-1, 0)", UNKNOWN, x -> x.heap(-1, 0));
        Compare.unchanged(Before.SOME, "heap(3, 0)", UNKNOWN, x -> x.heap(Before.SOME_HEAPS, 0));
        Check.due("the last of 20", Before.FULL.make().heap(19, 1), 19);
        Check.due("heap(20, 0)", Before.FULL.make().heap(20, 0), UNKNOWN);
        Check.due("heap(LEAST, 0)", Boards.at(0, 0).heap(LEAST, 0), UNKNOWN);
        Check.due("heap(MOST, 0)", Boards.at(0, 0).heap(MOST, 0), UNKNOWN);

        Check.sentence("Promise 21", "`what`: 0 for its notes, 1 for its lowest note, 2 for its dots,");
        int[][] due = {{3, 0, 3}, {1, 3, 1}, {1, 4, 0}};
        for (int heap = 0; heap < 3; heap++) {
            for (int what = 0; what < 3; what++) {
                Check.due("heap(" + heap + ", " + what + ")", Before.SOME.make().heap(heap, what), due[heap][what]);
            }
        }
        NoteThemes all = Boards.typed(Boards.times(20, "9,9"));
        all.load();
        Check.due("all 20 notes", all.heap(0, 0), 20);
        heapsAndThemes();
        middleAndDistance();

        Check.sentence("Promise 21", "Returns the number; UNKNOWN; BAD_VALUE.");
        Compare.unchanged(Before.SOME, "heap(0, -1)", BAD_VALUE, x -> x.heap(0, -1));
        Compare.unchanged(Before.SOME, "heap(0, 7)", BAD_VALUE, x -> x.heap(0, 7));
        Compare.unchanged(Before.SOME, "heap(0, 6)", 6, x -> x.heap(0, 6));
        Compare.unchanged(Before.EMPTY, "heap(0, 7)", UNKNOWN, x -> x.heap(0, 7));
        Compare.unchanged(Before.SOME, "heap(3, 7)", UNKNOWN, x -> x.heap(Before.SOME_HEAPS, 7));
        Check.due("heap(0, LEAST)", Boards.at(0, 0).heap(0, LEAST), BAD_VALUE);
        Check.due("heap(0, MOST)", Boards.at(0, 0).heap(0, MOST), BAD_VALUE);
    }

    private static void heapsAndThemes() {
        Check.sentence("Promise 21", "3 for how many themes its notes belong to, 4 for how many of them belong to none,");
        NoteThemes x = Boards.themes(20, 8);
        x.set(0, 20);
        Check.due("one heap", x.count(1), 1);
        Check.due("all 8 themes", x.heap(0, 3), 8);
        Check.due("none", x.heap(0, 4), 12);
        for (int note = 8; note < 20; note++) {
            x.belong(note, note % 8);
        }
        Check.due("several notes of a theme count once", x.heap(0, 3), 8);
        Check.due("none", x.heap(0, 4), 0);
        for (int note = 19; note >= 1; note--) {
            x.belong(note, NONE);
        }
        Check.due("one theme", x.heap(0, 3), 1);
        Check.due("none", x.heap(0, 4), 19);
        x.belong(0, NONE);
        Check.due("no theme", x.heap(0, 3), 0);
        Check.due("none", x.heap(0, 4), 20);
    }

    private static void middleAndDistance() {
        Check.sentence("Promise 21", "5 for the note in its middle: with the least distance to all others of the heap,"
            + " together, of several the lowest,");
        Check.due("alone", Boards.at(0, 0, 29, 19).heap(1, 5), 1);
        Check.due("of two", Boards.at(3, 0, 0, 0).heap(0, 5), 0);
        Check.due("of two that are higher", Boards.at(29, 19, 3, 0, 0, 0).heap(1, 5), 1);
        Check.due("of three in a row", Boards.at(6, 0, 0, 0, 3, 0).heap(0, 5), 2);
        Check.due("of four in a row", Boards.at(9, 0, 6, 0, 0, 0, 3, 0).heap(0, 5), 1);
        Check.due("of all at one place", Boards.at(9, 9, 9, 9, 9, 9).heap(0, 5), 0);
        Check.due("others pull it", Boards.at(0, 0, 3, 0, 6, 0, 6, 0, 6, 0).heap(0, 5), 2);
        Check.due("other heaps do not", Boards.at(0, 0, 3, 0, 6, 0, 20, 0, 20, 0, 20, 0).heap(0, 5), 1);
        NoteThemes wide = new NoteThemes();
        for (int i = 0; i < 9; i++) {
            wide.put(0, 0);
            wide.put(29, 19);
        }
        wide.put(20, 12);
        wide.put(10, 8);
        wide.set(0, 20);
        Check.due("20 notes in one heap", wide.heap(0, 0), 20);
        Check.due("most of them in two corners", wide.heap(0, 5), 18);

        Check.sentence("Promise 21", "6 for the greatest distance of two of its notes");
        Check.due("alone", Boards.at(0, 0, 29, 19).heap(1, 6), 0);
        Check.due("at one place", Boards.at(9, 9, 9, 9).heap(0, 6), 0);
        Check.due("of two", Boards.at(1, 1, 2, 3).heap(0, 6), 3);
        Check.due("neither the first nor the last", Boards.at(6, 0, 0, 0, 3, 0, 9, 0, 6, 1).heap(0, 6), 9);
        NoteThemes far = Boards.at(15, 9, 0, 0, 29, 19, 20, 18, 5, 9);
        far.set(0, 20);
        Check.due("one heap", far.count(1), 1);
        Check.due("from corner to corner", far.heap(0, 6), 48);
    }

    // ---- Promise 22: theme

    private static void promise22() {
        Check.sentence("Promise 22", "`theme`: a theme");
        Compare.unchanged(Before.SOME, "theme(-1, 0)", UNKNOWN, x -> x.theme(-1, 0));
        Compare.unchanged(Before.SOME, "theme(2, 0)", UNKNOWN, x -> x.theme(Before.SOME_THEMES, 0));
        Compare.unchanged(Before.SOME, "theme(NONE, 0)", UNKNOWN, x -> x.theme(NONE, 0));
        Check.due("the last of 8", Before.FULL.make().theme(7, 0), 1);
        Check.due("theme(8, 0)", Before.FULL.make().theme(8, 0), UNKNOWN);
        Check.due("theme(LEAST, 0)", Boards.themes(1, 1).theme(LEAST, 0), UNKNOWN);
        Check.due("theme(MOST, 0)", Boards.themes(1, 1).theme(MOST, 0), UNKNOWN);

        Check.sentence("Promise 22", "`what`: 0 for its notes, 1 for its dots, 2 for its name (NONE without one),");
        int[][] due = {{3, 3, 4}, {1, 1, NONE}};
        for (int theme = 0; theme < 2; theme++) {
            for (int what = 0; what < 3; what++) {
                Check.due("theme(" + theme + ", " + what + ")", Before.SOME.make().theme(theme, what), due[theme][what]);
            }
        }
        ranks();
        heapsAndVotersOfThemes();

        Check.sentence("Promise 22", "Returns the number; UNKNOWN; BAD_VALUE.");
        Compare.unchanged(Before.SOME, "theme(0, -1)", BAD_VALUE, x -> x.theme(0, -1));
        Compare.unchanged(Before.SOME, "theme(0, 6)", BAD_VALUE, x -> x.theme(0, 6));
        Compare.unchanged(Before.SOME, "theme(1, 2)", NONE, x -> x.theme(1, 2));
        Compare.unchanged(Before.SOME, "theme(0, 5)", 2, x -> x.theme(0, 5));
        Compare.unchanged(Before.EMPTY, "theme(0, 6)", UNKNOWN, x -> x.theme(0, 6));
        Compare.unchanged(Before.SOME, "theme(2, 6)", UNKNOWN, x -> x.theme(Before.SOME_THEMES, 6));
        Check.due("theme(0, LEAST)", Boards.themes(1, 1).theme(0, LEAST), BAD_VALUE);
        Check.due("theme(0, MOST)", Boards.themes(1, 1).theme(0, MOST), BAD_VALUE);
    }

    private static void ranks() {
        Check.sentence("Promise 22", "3 for its rank by dots, from 0: themes with more dots, or as many and a lower number,"
            + " come ahead,");
        Check.due("the only theme", Boards.themes(1, 1).theme(0, 3), 0);
        NoteThemes x = Boards.themes(9, 8);
        ranksAre(x, 0, 1, 2, 3, 4, 5, 6, 7);
        x.stick(0, 8);
        ranksAre(x, 0, 1, 2, 3, 4, 5, 6, 7);
        x.stick(0, 7);
        ranksAre(x, 1, 2, 3, 4, 5, 6, 7, 0);
        x.stick(0, 3);
        ranksAre(x, 2, 3, 4, 0, 5, 6, 7, 1);
        x.stick(1, 7);
        ranksAre(x, 2, 3, 4, 1, 5, 6, 7, 0);
        for (int theme = 0; theme < 8; theme++) {
            x.stick(2 + theme / 2, theme);
        }
        ranksAre(x, 2, 3, 4, 1, 5, 6, 7, 0);
        x.stick(1, 0);
        ranksAre(x, 1, 3, 4, 2, 5, 6, 7, 0);
    }

    private static void ranksAre(NoteThemes x, int... due) {
        for (int theme = 0; theme < due.length; theme++) {
            Check.due("the rank of the theme " + theme, x.theme(theme, 3), due[theme]);
        }
    }

    private static void heapsAndVotersOfThemes() {
        Check.sentence("Promise 22", "4 for how many heaps its notes are in, 5 for people that voted for a name of it");
        NoteThemes x = Boards.themes(20, 1);
        for (int note = 1; note < 20; note++) {
            Check.due("heaps", x.theme(0, 4), note);
            x.belong(note, 0);
        }
        Check.due("all 20 heaps", x.theme(0, 4), 20);
        x.set(0, 4);
        Check.due("one heap", x.theme(0, 4), 1);
        Check.due("nobody", x.theme(0, 5), 0);
        for (int person = 0; person < 6; person++) {
            x.vote(person, 0, person % 2 * 9);
            Check.due("people", x.theme(0, 5), person + 1);
        }
        x.vote(3, 0, NONE);
        Check.due("one takes the vote back", x.theme(0, 5), 5);
    }

    // ---- Promise 23: votes

    private static void promise23() {
        Check.sentence("Promise 23", "Tells the votes of a theme.");
        NoteThemes x = Boards.themes(2, 2);
        int[] names = {0, 9, 9, 0, 9, 4};
        for (int person = 0; person < 6; person++) {
            x.vote(person, 1, names[person]);
        }
        int[] due = {2, 0, 0, 0, 1, 0, 0, 0, 0, 3};
        for (int name = 0; name < 10; name++) {
            Check.due("votes(1, " + name + ")", x.votes(1, name), due[name]);
            Check.due("votes(0, " + name + ")", x.votes(0, name), 0);
        }

        Check.sentence("Promise 23", "`theme`: a theme");
        Compare.unchanged(Before.SOME, "votes(-1, 4)", UNKNOWN, y -> y.votes(-1, 4));
        Compare.unchanged(Before.SOME, "votes(2, 4)", UNKNOWN, y -> y.votes(Before.SOME_THEMES, 4));
        Check.due("the last of 8", Before.FULL.make().votes(7, 4), 1);
        Check.due("votes(8, 4)", Before.FULL.make().votes(8, 4), UNKNOWN);
        Check.due("votes(LEAST, 4)", Boards.themes(1, 1).votes(LEAST, 4), UNKNOWN);
        Check.due("votes(MOST, 4)", Boards.themes(1, 1).votes(MOST, 4), UNKNOWN);

        Check.sentence("Promise 23", "`name`: 0 to 9");
        Compare.unchanged(Before.SOME, "votes(0, -1)", BAD_VALUE, y -> y.votes(0, -1));
        Compare.unchanged(Before.SOME, "votes(0, 10)", BAD_VALUE, y -> y.votes(0, 10));
        Compare.unchanged(Before.SOME, "votes(0, NONE)", BAD_VALUE, y -> y.votes(0, NONE));
        Check.due("votes(0, 0)", Boards.themes(1, 1).votes(0, 0), 0);
        Check.due("votes(0, 9)", Boards.themes(1, 1).votes(0, 9), 0);
        Check.due("votes(0, LEAST)", Boards.themes(1, 1).votes(0, LEAST), BAD_VALUE);
        Check.due("votes(0, MOST)", Boards.themes(1, 1).votes(0, MOST), BAD_VALUE);

        Check.sentence("Promise 23", "Returns how many people voted for the name; UNKNOWN; BAD_VALUE.");
        NoteThemes all = Boards.themes(1, 1);
        for (int person = 0; person < 6; person++) {
            Check.due("votes(0, 0)", all.votes(0, 0), person);
            all.vote(person, 0, 0);
        }
        Check.due("all people", all.votes(0, 0), 6);
        Compare.unchanged(Before.EMPTY, "votes(0, 10)", UNKNOWN, y -> y.votes(0, 10));
        Compare.unchanged(Before.SOME, "votes(2, 10)", UNKNOWN, y -> y.votes(Before.SOME_THEMES, 10));
        Compare.unchanged(Before.SOME, "votes(0, 4)", 2, y -> y.votes(0, 4));
    }

    // ---- Promise 24: ifDragged

    private static void promise24() {
        Check.sentence("Promise 24", "Tells what a drag would do.");
        NoteThemes near = Boards.at(0, 0, 3, 0, 6, 0, 20, 10, 22, 10);
        for (int note = 0; note < 5; note++) {
            int column = near.note(note, 0);
            int row = near.note(note, 1);
            Check.due("where it is: the heaps of now", near.ifDragged(note, column, row, 0), 2);
            Check.due("where it is: its heap of now", near.ifDragged(note, column, row, 1), note < 3 ? 3 : 2);
            Check.due("where it is: it leaves none", near.ifDragged(note, column, row, 2), 0);
        }
        for (int what = 0; what < 3; what++) {
            int told = what;
            int due = what == 0 ? 4 : 2;
            Compare.unchanged(Before.SOME, "ifDragged(1, 20, 9, " + what + ")", due, x -> x.ifDragged(1, 20, 9, told));
        }

        Check.sentence("Promise 24", "`note`: a note");
        Compare.unchanged(Before.SOME, "ifDragged(-1, 0, 0, 0)", UNKNOWN, x -> x.ifDragged(-1, 0, 0, 0));
        Compare.unchanged(Before.SOME, "ifDragged(5, 0, 0, 0)", UNKNOWN, x -> x.ifDragged(5, 0, 0, 0));
        Check.due("the last of 20", Before.FULL.make().ifDragged(19, 0, 0, 0), 19);
        Check.due("ifDragged(20, 0, 0, 0)", Before.FULL.make().ifDragged(20, 0, 0, 0), UNKNOWN);
        Check.due("ifDragged(LEAST, 0, 0, 0)", Boards.at(0, 0).ifDragged(LEAST, 0, 0, 0), UNKNOWN);
        Check.due("ifDragged(MOST, 0, 0, 0)", Boards.at(0, 0).ifDragged(MOST, 0, 0, 0), UNKNOWN);
        ifDraggedToBounds();
        ifDraggedTells();
    }

    private static void ifDraggedToBounds() {
        Check.sentence("Promise 24", "`column`: 0 to 29");
        Compare.unchanged(Before.SOME, "ifDragged(0, -1, 0, 0)", UNKNOWN, x -> x.ifDragged(0, -1, 0, 0));
        Compare.unchanged(Before.SOME, "ifDragged(0, 30, 0, 0)", UNKNOWN, x -> x.ifDragged(0, 30, 0, 0));
        Check.due("ifDragged(0, 0, 9, 0)", Boards.at(9, 9).ifDragged(0, 0, 9, 0), 1);
        Check.due("ifDragged(0, 29, 9, 0)", Boards.at(9, 9).ifDragged(0, 29, 9, 0), 1);
        Check.due("ifDragged(0, LEAST, 9, 0)", Boards.at(9, 9).ifDragged(0, LEAST, 9, 0), UNKNOWN);
        Check.due("ifDragged(0, MOST, 9, 0)", Boards.at(9, 9).ifDragged(0, MOST, 9, 0), UNKNOWN);

        Check.sentence("Promise 24", "`row`: 0 to 19");
        Compare.unchanged(Before.SOME, "ifDragged(0, 0, -1, 0)", UNKNOWN, x -> x.ifDragged(0, 0, -1, 0));
        Compare.unchanged(Before.SOME, "ifDragged(0, 0, 20, 0)", UNKNOWN, x -> x.ifDragged(0, 0, 20, 0));
        Check.due("ifDragged(0, 9, 0, 0)", Boards.at(9, 9).ifDragged(0, 9, 0, 0), 1);
        Check.due("ifDragged(0, 9, 19, 0)", Boards.at(9, 9).ifDragged(0, 9, 19, 0), 1);
        Check.due("ifDragged(0, 9, LEAST, 0)", Boards.at(9, 9).ifDragged(0, 9, LEAST, 0), UNKNOWN);
        Check.due("ifDragged(0, 9, MOST, 0)", Boards.at(9, 9).ifDragged(0, 9, MOST, 0), UNKNOWN);
    }

    private static void ifDraggedTells() {
        Check.sentence("Promise 24", "`what`: 0 for how many heaps there would be,");
        Check.due("the only note", Boards.at(0, 0).ifDragged(0, 29, 19, 0), 1);
        Check.due("just near enough", Boards.at(0, 0, 20, 0).ifDragged(0, 17, 0, 0), 1);
        Check.due("just not near enough", Boards.at(0, 0, 20, 0).ifDragged(0, 16, 0, 0), 2);
        Check.due("one that parts its heap", Boards.at(0, 0, 6, 0, 3, 0).ifDragged(2, 29, 19, 0), 3);
        Check.due("one that joins two", Boards.at(0, 0, 6, 0, 29, 19).ifDragged(2, 3, 0, 0), 1);

        Check.sentence("Promise 24", "1 for how many notes would be in its heap then (itself included),");
        Check.due("it would be alone", Boards.at(0, 0, 1, 0).ifDragged(0, 29, 19, 1), 1);
        Check.due("it would join two", Boards.at(0, 0, 6, 0, 29, 19).ifDragged(2, 3, 0, 1), 3);
        Check.due("it would stay", Boards.at(0, 0, 1, 0).ifDragged(0, 4, 0, 1), 2);
        NoteThemes all = Boards.alone(20);
        all.set(0, 20);
        Check.due("all 20", all.ifDragged(0, 1, 1, 1), 20);

        Check.sentence("Promise 24",
            "2 for how many notes of its heap of now would be in another heap than it then");
        Check.due("it has no others", Boards.at(0, 0, 29, 19).ifDragged(0, 29, 18, 2), 0);
        Check.due("it leaves one", Boards.at(0, 0, 1, 0).ifDragged(0, 5, 0, 2), 1);
        Check.due("it leaves none", Boards.at(0, 0, 1, 0).ifDragged(0, 4, 0, 2), 0);
        Check.due("it leaves all 19", twentyAtOnePlace().ifDragged(7, 29, 19, 2), 19);
        Check.due("it leaves one and takes the other with it", Boards.at(0, 0, 6, 0, 3, 0).ifDragged(2, 8, 0, 2), 1);
        Check.due("those that it joins do not count", Boards.at(0, 0, 20, 0, 21, 0).ifDragged(0, 20, 1, 2), 0);

        Check.sentence("Promise 24", "Returns the number; UNKNOWN (note or place); BAD_VALUE.");
        Compare.unchanged(Before.SOME, "ifDragged(0, 0, 0, -1)", BAD_VALUE, x -> x.ifDragged(0, 0, 0, -1));
        Compare.unchanged(Before.SOME, "ifDragged(0, 9, 9, 3)", BAD_VALUE, x -> x.ifDragged(0, 9, 9, 3));
        Compare.unchanged(Before.EMPTY, "ifDragged(0, 0, 0, 3)", UNKNOWN, x -> x.ifDragged(0, 0, 0, 3));
        Compare.unchanged(Before.SOME, "ifDragged(5, 0, 0, 3)", UNKNOWN, x -> x.ifDragged(5, 0, 0, 3));
        Compare.unchanged(Before.SOME, "ifDragged(0, 30, 20, 3)", UNKNOWN, x -> x.ifDragged(0, 30, 20, 3));
        Check.due("ifDragged(0, 0, 0, LEAST)", Boards.at(0, 0).ifDragged(0, 0, 0, LEAST), BAD_VALUE);
        Check.due("ifDragged(0, 0, 0, MOST)", Boards.at(0, 0).ifDragged(0, 0, 0, MOST), BAD_VALUE);
    }

    private static NoteThemes twentyAtOnePlace() {
        NoteThemes x = Boards.typed(Boards.times(20, "9,9"));
        x.load();
        return x;
    }

    // ---- Promise 25: reachFor

    private static void promise25() {
        Check.sentence("Promise 25", "Finds the least reach with which there are no more heaps than told.");
        for (int distance = 1; distance <= 48; distance++) {
            NoteThemes x = Boards.at(0, 0, Math.min(distance, 29), Math.max(distance - 29, 0));
            Check.due("two notes at a distance of " + distance, x.reachFor(1), distance);
            Check.due("two heaps", x.reachFor(2), 0);
        }
        NoteThemes steps = Boards.at(0, 0, 1, 0, 3, 0, 6, 0, 10, 0, 15, 0, 21, 0);
        for (int heaps = 1; heaps <= 7; heaps++) {
            Check.due("reachFor(" + heaps + ")", steps.reachFor(heaps), 7 - heaps);
        }
        NoteThemes even = Boards.alone(20);
        Check.due("no reach makes just 19 heaps", even.reachFor(19), 4);
        Check.due("all alone", even.reachFor(20), 0);
        Check.due("the setting stays", even.count(8), 3);
        Check.due("the heaps of now stay", even.count(1), 20);

        Check.sentence("Promise 25", "`heaps`: 1 to 20");
        Compare.unchanged(Before.SOME, "reachFor(0)", BAD_VALUE, x -> x.reachFor(0));
        Compare.unchanged(Before.SOME, "reachFor(21)", BAD_VALUE, x -> x.reachFor(21));
        Compare.unchanged(Before.SOME, "reachFor(1)", 24, x -> x.reachFor(1));
        Compare.unchanged(Before.SOME, "reachFor(20)", 0, x -> x.reachFor(20));
        Check.due("reachFor(-1)", Boards.at(0, 0).reachFor(-1), BAD_VALUE);
        Check.due("reachFor(LEAST)", Boards.at(0, 0).reachFor(LEAST), BAD_VALUE);
        Check.due("reachFor(MOST)", Boards.at(0, 0).reachFor(MOST), BAD_VALUE);

        Check.sentence("Promise 25", "Returns the reach, 0 to 48; BAD_VALUE.");
        Compare.unchanged(Before.EMPTY, "reachFor(1)", 0, x -> x.reachFor(1));
        Compare.unchanged(Before.EMPTY, "reachFor(0)", BAD_VALUE, x -> x.reachFor(0));
        Compare.unchanged(Before.EMPTY, "reachFor(21)", BAD_VALUE, x -> x.reachFor(21));
        Check.due("one note", Boards.at(0, 0).reachFor(1), 0);
        Check.due("several at one place", twentyAtOnePlace().reachFor(1), 0);
        Check.due("the greatest", Boards.at(0, 0, 29, 19).reachFor(1), 48);
        Check.due("the greatest but one", Boards.at(0, 0, 29, 18).reachFor(1), 47);
        NoteThemes farther = Boards.at(0, 19, 29, 0);
        farther.set(0, 0);
        Check.due("beyond what can be set", farther.reachFor(1), 48);
    }

    // ---- Promise 26: nearest

    private static void promise26() {
        Check.sentence("Promise 26",
            "Finds the theme whose notes lie nearest to a note: by the least distance of any of its notes to this one");
        NoteThemes x = Boards.themes(3, 3);
        x.drag(2, 20, 0);
        x.put(9, 0);
        Check.due("of three", x.nearest(3), 1);
        x.belong(2, 0);
        Check.due("the nearest note decides, not all", x.nearest(3), 1);
        x.drag(2, 9, 1);
        Check.due("now it is another one's", x.nearest(3), 0);
        NoteThemes far = Boards.at(0, 0, 29, 19);
        far.make(0);
        Check.due("the greatest distance", far.nearest(1), 0);
        NoteThemes eight = Boards.themes(20, 8);
        Check.due("the last theme", eight.nearest(7), 0);
        Check.due("from a note without one", eight.nearest(8), 1);

        Check.sentence("Promise 26", "(the note itself does not count), of several the lowest.");
        NoteThemes two = Boards.at(0, 0, 9, 0, 5, 0);
        two.make(0);
        two.make(1);
        Check.due("not its own theme", two.nearest(0), 1);
        two.belong(2, 0);
        Check.due("its own theme, by another note", two.nearest(0), 0);
        NoteThemes same = Boards.at(4, 0, 0, 0, 8, 0, 4, 4);
        same.make(2);
        same.make(1);
        Check.due("of two the lowest, not that of the lowest note", same.nearest(0), 0);
        same.make(3);
        same.drag(0, 4, 4);
        Check.due("at the same place", same.nearest(0), 2);
        NoteThemes all = Boards.typed(Boards.times(3, "9,9"));
        all.load();
        all.make(0);
        all.belong(2, NONE);
        all.make(0);
        Check.due("two themes at the same place", all.nearest(2), 0);

        Check.sentence("Promise 26", "`note`: a note");
        Compare.unchanged(Before.SOME, "nearest(-1)", UNKNOWN, y -> y.nearest(-1));
        Compare.unchanged(Before.SOME, "nearest(5)", UNKNOWN, y -> y.nearest(Before.SOME_NOTES));
        Check.due("the last of 20", Before.FULL.make().nearest(19), 6);
        Check.due("nearest(20)", Before.FULL.make().nearest(20), UNKNOWN);
        Check.due("nearest(LEAST)", Boards.at(0, 0).nearest(LEAST), UNKNOWN);
        Check.due("nearest(MOST)", Boards.at(0, 0).nearest(MOST), UNKNOWN);

        Check.sentence("Promise 26", "Returns the theme; UNKNOWN; NONE without another note in any theme.");
        Compare.unchanged(Before.SOME, "nearest(4)", 1, y -> y.nearest(4));
        Compare.unchanged(Before.EMPTY, "nearest(0)", UNKNOWN, y -> y.nearest(0));
        Check.due("one note", Boards.at(0, 0).nearest(0), NONE);
        Check.due("one note in a theme", Boards.themes(1, 1).nearest(0), NONE);
        Check.due("no other note in a theme", Boards.themes(20, 1).nearest(0), NONE);
        Check.due("another one in a theme", Boards.themes(20, 1).nearest(19), 0);
        Check.due("no theme at all", Boards.alone(20).nearest(0), NONE);
    }

    // ---- Promise 27: count

    private static void promise27() {
        Check.sentence("Promise 27", "`what`: 0 for notes, 1 for heaps, 2 for themes,");
        counts("none", new NoteThemes(), 0, 0, 0);
        counts("the fullest", Boards.themes(20, 8), 20, 20, 8);
        counts("in one heap", twentyAtOnePlace(), 20, 1, 0);

        Check.sentence("Promise 27",
            "3 for dots that are stuck, 4 for dots that are left of all people together (none is counted below 0),");
        NoteThemes x = Boards.at(0, 0);
        x.set(1, 9);
        x.set(2, 9);
        for (int i = 0; i < 54; i++) {
            Check.due("count(3)", x.count(3), i);
            Check.due("count(4)", x.count(4), 54 - i);
            x.stick(i / 9, 0);
        }
        Check.due("all are stuck", x.count(3), 54);
        Check.due("none is left", x.count(4), 0);
        x.set(1, 1);
        Check.due("more are stuck than there are now", x.count(3), 54);
        Check.due("none is counted below 0", x.count(4), 0);
        for (int i = 0; i < 9; i++) {
            x.unstick(5, 0);
        }
        Check.due("one person's is left, the others' do not count against it", x.count(4), 1);
        countsOfThemesAndSettings();

        Check.sentence("Promise 27", "Returns the number; BAD_VALUE.");
        Compare.unchanged(Before.SOME, "count(-1)", BAD_VALUE, y -> y.count(-1));
        Compare.unchanged(Before.SOME, "count(13)", BAD_VALUE, y -> y.count(13));
        Compare.unchanged(Before.EMPTY, "count(13)", BAD_VALUE, y -> y.count(13));
        Compare.unchanged(Before.FULL, "count(1)", 20, y -> y.count(1));
        Check.due("count(LEAST)", Boards.at(0, 0).count(LEAST), BAD_VALUE);
        Check.due("count(MOST)", Boards.at(0, 0).count(MOST), BAD_VALUE);
    }

    private static void counts(String which, NoteThemes x, int... due) {
        for (int what = 0; what < due.length; what++) {
            Check.due(which + ": count(" + what + ")", x.count(what), due[what]);
        }
    }

    private static void countsOfThemesAndSettings() {
        Check.sentence("Promise 27",
            "5 for notes that belong to no theme, 6 for themes with a name, 7 for notes alone in their heap,");
        NoteThemes x = Boards.themes(20, 8);
        Check.due("notes that belong to no theme", x.count(5), 12);
        Check.due("no theme has a name", x.count(6), 0);
        for (int theme = 0; theme < 8; theme++) {
            x.vote(0, theme, theme);
            Check.due("one vote is none", x.count(6), theme);
            x.vote(1, theme, theme);
            Check.due("themes with a name", x.count(6), theme + 1);
        }
        Check.due("notes alone", x.count(7), 20);
        x.drag(1, 3, 0);
        Check.due("two are not alone then", x.count(7), 18);
        x.set(0, 4);
        Check.due("none is alone", x.count(7), 0);
        Check.due("the only note is", Boards.at(0, 0).count(7), 1);

        Check.sentence("Promise 27", "8 to 10 for the settings 0 to 2,");
        int[][] settings = {{3, 4, 2}, {0, 1, 1}, {20, 9, 9}};
        NoteThemes set = new NoteThemes();
        for (int[] due : settings) {
            for (int which = 0; which < 3; which++) {
                set.set(which, due[which]);
            }
            for (int which = 0; which < 3; which++) {
                Check.due("count(" + (8 + which) + ")", set.count(8 + which), due[which]);
            }
        }

        Check.sentence("Promise 27", "11 for the states in the history, 12 for the length of the text");
        NoteThemes none = new NoteThemes();
        Check.due("no states", none.count(11), 0);
        Check.due("no text", none.count(12), 0);
        Check.due("four states", Before.FULL.make().count(11), 4);
        Check.due("80 characters", Before.FULL.make().count(12), 80);
        Check.due("three states", Before.SOME.make().count(11), Before.SOME_STATES);
        Check.due("8 characters", Before.SOME.make().count(12), 8);
    }
}

/** What the document begins with, phrase by phrase: each one shown on a small board. */
public final class WhatItIsTest {
    private static final String IT = "What it is";
    private static final int NOT_POSSIBLE = -4;
    private static final int NONE = -5;

    public static void main(String[] args) {
        wholeStory();
        notesAndHeaps();
        dotsOnNotes();
        themesOfHeaps();
        namesByVotes();
        themesOrNone();
        ranks();
        whatDragsDo();
        reachAndMiddle();
        texts();
        accounts();
        undoAndSnapshot();
        laterCallsEnd();
        Check.end();
    }

    private static void wholeStory() {
        Check.sentence(IT, "Notes on a board that are dragged into heaps, voted for by dots, and merged into themes under"
            + " names:");
        NoteThemes x = Boards.at(0, 0, 10, 0, 20, 0);
        Check.due("dragged into a heap", x.drag(1, 1, 0), 2);
        Check.due("voted for", x.stick(2, 1), 1);
        Check.due("a theme", x.make(0), 0);
        Check.due("another", x.make(1), 1);
        Check.due("merged", x.merge(0, 1), 3);
        x.vote(0, 0, 8);
        Check.due("under a name", x.vote(1, 0, 8), 8);
    }

    private static void notesAndHeaps() {
        Check.sentence(IT, "notes at places,");
        NoteThemes x = Boards.at(4, 5, 7, 5, 14, 5, 17, 5);
        Check.due("column", x.note(1, 0), 7);
        Check.due("row", x.note(1, 1), 5);
        Check.sentence(IT, "notes that hang together as they are near enough,");
        Check.due("one near", x.note(0, 5), 1);
        Check.due("the heap of the first", x.note(0, 3), 0);
        Check.due("that of the second", x.note(1, 3), 0);
        Check.due("that of the third", x.note(2, 3), 1);
        Check.sentence(IT, "heaps that come of that,");
        Check.due("heaps", x.count(1), 2);
        Check.due("notes of the second", x.heap(1, 0), 2);
        Check.sentence(IT, "notes dragged alone or with their heap,");
        Check.due("with their heap", x.dragHeap(1, 3, 1), 2);
        Check.due("one of them", x.note(2, 0), 17);
        Check.due("the other", x.note(3, 0), 20);
        Check.due("alone", x.drag(3, 20, 9), 3);
        Check.due("it alone", x.note(2, 1), 6);
    }

    private static void dotsOnNotes() {
        Check.sentence(IT, "dots that people stick, and take off again, a bound for each,");
        NoteThemes x = Boards.alone(3);
        Check.due("stuck", x.stick(3, 0), 1);
        Check.due("and again", x.stick(3, 0), 2);
        Check.due("the bound of one note", x.stick(3, 0), NOT_POSSIBLE);
        Check.due("stuck elsewhere", x.stick(3, 1), 1);
        Check.due("and again", x.stick(3, 1), 2);
        Check.due("the bound of a person", x.stick(3, 2), NoteThemes.FULL);
        Check.due("another person has its own", x.stick(4, 2), 1);
        Check.due("taken off", x.unstick(3, 0), 1);
        Check.due("so that it can be stuck again", x.stick(3, 2), 2);
    }

    private static void themesOfHeaps() {
        Check.sentence(IT, "themes made of heaps, merged and parted,");
        NoteThemes x = Boards.at(0, 0, 1, 0, 20, 0, 21, 0);
        Check.due("of the heap 1", x.make(1), 0);
        Check.due("of the heap 0", x.make(0), 1);
        Check.due("notes", x.theme(1, 0), 2);
        Check.due("merged", x.merge(1, 0), 4);
        Check.due("one is left", x.count(2), 1);
        Check.due("parted: one note goes", x.belong(3, NONE), 1);
        Check.due("and another", x.belong(2, NONE), 1);
        Check.due("they come to a theme of their own", x.make(1), 1);
        Check.due("notes of it", x.theme(1, 0), 2);
        Check.due("notes that stay", x.theme(0, 0), 2);
    }

    private static void namesByVotes() {
        Check.sentence(IT, "names that are chosen by votes,");
        NoteThemes x = Boards.themes(1, 1);
        Check.due("one vote", x.vote(0, 0, 6), 10);
        Check.due("another name", x.vote(1, 0, 2), 10);
        Check.due("two votes", x.vote(2, 0, 6), 6);
        Check.due("as many for a lower name", x.vote(3, 0, 2), 2);
        Check.due("more votes", x.vote(4, 0, 6), 6);
    }

    private static void themesOrNone() {
        Check.sentence(IT, "notes that belong to one theme or to none,");
        NoteThemes x = Boards.themes(3, 2);
        Check.due("to one", x.note(1, 4), 1);
        Check.due("to none", x.note(2, 4), NONE);
        x.belong(1, 0);
        Check.due("to another in place of it", x.note(1, 4), 0);
        Check.due("the other is gone", x.count(2), 1);
        whyToNone();
    }

    /** No call tells why, so this shows all there is: by which calls a note comes to belong to none. */
    private static void whyToNone() {
        Check.sentence(IT, "why a note belongs to no theme,");
        NoteThemes x = Boards.at(0, 0);
        Check.due("no theme was made of it", x.note(0, 4), NONE);
        x.make(0);
        x.put(1, 0);
        Check.due("it has come to the heap behind that", x.note(1, 4), NONE);
        x.belong(0, NONE);
        Check.due("it was let belong to none", x.note(0, 4), NONE);
        x.make(0);
        Boards.typeAll(x, "0,0");
        x.load();
        Check.due("it has come from a text", x.note(0, 4), NONE);
        x.make(0);
        x.undo();
        Check.due("its theme was undone", x.note(0, 4), NONE);
    }

    private static void ranks() {
        Check.sentence(IT, "dots by themes and their ranks,");
        NoteThemes x = Boards.themes(3, 3);
        x.stick(0, 1);
        x.stick(1, 1);
        x.stick(0, 2);
        int[] dots = {0, 2, 1};
        int[] ranks = {2, 0, 1};
        for (int theme = 0; theme < 3; theme++) {
            Check.due("dots", x.theme(theme, 1), dots[theme]);
            Check.due("rank", x.theme(theme, 3), ranks[theme]);
        }
    }

    private static void whatDragsDo() {
        Check.sentence(IT, "what a drag would join or part,");
        NoteThemes x = Boards.at(0, 0, 3, 0, 6, 0, 20, 0);
        Check.due("heaps, if it parts two others", x.ifDragged(1, 20, 1, 0), 3);
        Check.due("notes that it joins, and itself", x.ifDragged(1, 20, 1, 1), 2);
        Check.due("notes that it leaves", x.ifDragged(1, 20, 1, 2), 2);
        Check.due("nothing is dragged", x.note(1, 0), 3);
    }

    private static void reachAndMiddle() {
        Check.sentence(IT, "the reach by which there are just so many heaps,");
        NoteThemes x = Boards.at(0, 0, 5, 0, 12, 0);
        Check.due("for three", x.reachFor(3), 0);
        Check.due("for two", x.reachFor(2), 5);
        Check.due("for one", x.reachFor(1), 7);
        x.set(0, 5);
        Check.due("two heaps there are with it", x.count(1), 2);
        x.set(0, 7);
        Check.due("one heap there is with it", x.count(1), 1);
        Check.sentence(IT, "the note in the middle,");
        Check.due("of three in a row", x.heap(0, 5), 1);
    }

    private static void texts() {
        Check.sentence(IT, "boards that are read from a text with the places of faults,");
        NoteThemes x = Boards.typed("2,3**;29,19");
        Check.due("notes", x.load(), 2);
        Check.due("row of the first", x.note(0, 1), 3);
        Check.due("its dots", x.dots(0, 0), 2);
        Check.due("column of the second", x.note(1, 0), 29);
        x.type('9');
        Check.due("the place of the fault", x.load(), -100 - 11);
        Check.due("the board stays", x.count(0), 2);
    }

    private static void accounts() {
        Check.sentence(IT, "accounts that add up,");
        NoteThemes x = Before.SOME.make();
        int ofHeaps = x.heap(0, 0) + x.heap(1, 0) + x.heap(2, 0);
        Check.due("notes of heaps", ofHeaps, x.count(0));
        Check.due("notes of themes, and those of none", x.theme(0, 0) + x.theme(1, 0) + x.count(5), x.count(0));
        Check.due("dots that are stuck, and those left", x.count(3) + x.count(4), 6 * x.count(9));
        Check.due("dots of heaps", x.heap(0, 2) + x.heap(1, 2) + x.heap(2, 2), x.count(3));
    }

    private static void undoAndSnapshot() {
        Check.sentence(IT, "undo and a snapshot.");
        NoteThemes x = Boards.at(1, 1);
        Check.due("kept", x.keep(), 1);
        x.put(2, 2);
        x.put(3, 3);
        Check.due("undone", x.undo(), 2);
        Check.due("notes", x.count(0), 2);
        Check.due("restored", x.restore(), 1);
        Check.due("undone", x.undo(), 2);
        Check.due("notes", x.count(0), 2);
    }

    /** LANGUAGE.md lets no call throw or fail to end in any state, so that holds for later calls too. */
    private static void laterCallsEnd() {
        Check.sentence(IT, "what later calls answer is free.");
        int[] odd = {Integer.MIN_VALUE, -100, -30, -20, -6, NONE, -4, -1, 0, 1, 2, 3, 5, 7, 8, 9, 10, 13, 19, 20, 29, 30,
            48, 80, Integer.MAX_VALUE};
        NoteThemes x = new NoteThemes();
        int rounds = 0;
        for (int a : odd) {
            for (int b : odd) {
                for (int c : odd) {
                    x.put(rounds % 30, rounds % 17);
                    acts(x, a, b, c);
                    asks(x, a, b, c, odd[rounds % odd.length]);
                    rounds++;
                }
            }
        }
        Check.due("they have ended", rounds, odd.length * odd.length * odd.length);
    }

    private static void acts(NoteThemes x, int a, int b, int c) {
        x.put(a, b);
        x.drag(a, b, c);
        x.dragHeap(a, b, c);
        x.stick(a, b);
        x.make(a);
        x.vote(a, b, c);
        x.belong(a, b);
        x.merge(a, b);
        x.unstick(a, b);
        x.set(a, b);
        x.takeOff(c);
        x.type((char) c);
        x.type("1,1;2,2*".charAt((b & 7)));
        x.load();
        if (c == 0) {
            x.clearText();
            x.restore();
            x.undo();
        } else if (c == 20) {
            x.keep();
        }
    }

    private static void asks(NoteThemes x, int a, int b, int c, int d) {
        x.note(a, b);
        x.dots(a, b);
        x.heap(a, b);
        x.theme(a, b);
        x.votes(a, b);
        x.ifDragged(a, b, c, d);
        x.reachFor(a);
        x.nearest(a);
        x.count(a);
    }
}

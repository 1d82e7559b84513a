/** What an object may hold before a call; each one that is made is like the others of its kind. */
enum Before {
    /** No note, no text, no history, no snapshot. */
    EMPTY,
    /** Some of each: three heaps, two themes, a note without one, three states, a snapshot, a short text. */
    SOME,
    /** Full: 20 notes, 8 themes, 4 states, 80 characters, no dot left of the person 0, no more for it on the note 0. */
    FULL,
    /** Full, but for the history: all of it is undone. */
    UNDONE,
    /** Full, but for the snapshot: there is none. */
    UNKEPT,
    /** Full, with a fault in the text: its last character. */
    FAULTY;

    static final int SOME_NOTES = 5;
    static final int SOME_HEAPS = 3;
    static final int SOME_THEMES = 2;
    static final int SOME_STATES = 3;

    NoteThemes make() {
        switch (this) {
            case SOME:
                return some();
            case FULL:
                return full(true, '*');
            case UNDONE:
                return undone(full(true, '*'));
            case UNKEPT:
                return full(false, '*');
            case FAULTY:
                return full(true, ',');
            default:
                return new NoteThemes();
        }
    }

    /** Heaps: 0 of the notes 0 to 2, 1 of the note 3, 2 of the note 4; the themes 0 and 1 are of the first two. */
    private static NoteThemes some() {
        NoteThemes x = Boards.at(0, 0, 3, 0, 6, 0, 20, 10, 29, 19);
        x.make(0);
        x.stick(0, 1);
        x.stick(0, 1);
        x.stick(5, 0);
        x.vote(0, 0, 4);
        x.vote(1, 0, 4);
        x.keep();
        x.make(1);
        x.vote(3, 1, 9);
        x.stick(0, 3);
        x.vote(2, 1, 4);
        x.set(0, 5);
        x.undo();
        Boards.typeAll(x, "1,1*;5,5");
        return x;
    }

    /** Each note is alone; the themes 0 to 7 are of the notes 0 to 7. The last act drags the note 19. */
    private static NoteThemes full(boolean isKept, char last) {
        NoteThemes x = Boards.themes(20, 8);
        x.vote(0, 0, 4);
        x.vote(1, 0, 4);
        if (isKept) {
            x.keep();
        }
        x.stick(0, 0);
        x.stick(0, 0);
        x.stick(0, 1);
        x.stick(0, 1);
        x.stick(1, 0);
        x.stick(1, 0);
        x.vote(2, 7, 4);
        x.drag(19, 29, 19);
        Boards.typeAll(x, Boards.times(20, "9,9") + last);
        return x;
    }

    private static NoteThemes undone(NoteThemes x) {
        for (int i = 0; i < 4; i++) {
            x.undo();
        }
        return x;
    }
}

/**
 * Notes on a board that are dragged into heaps, voted for by dots, and merged
 * into themes under names. What each call does is said in DOC.md, promise by
 * promise; every call tests its arguments in the order of its "Returns" line.
 */
public final class NoteThemes {
    /** There is no such note, heap, theme, person or place. */
    public static final int UNKNOWN = -1;
    /** Another argument is out of range. */
    public static final int BAD_VALUE = -2;
    /** There is no more room. */
    public static final int FULL = -3;
    /** This is not possible. */
    public static final int NOT_POSSIBLE = -4;
    /** There is no such thing; not an error. */
    public static final int NONE = -5;

    private static final int COLUMNS = 30;
    private static final int ROWS = 20;
    private static final int MOST_NOTES = 20;
    private static final int PEOPLE = 6;
    private static final int MOST_THEMES = 8;
    private static final int NAMES = 10;
    /** What vote() answers if the theme has no name then. */
    private static final int NO_NAME = 10;
    private static final int MOST_CHARACTERS = 80;
    private static final int MOST_STATES = 4;

    private static final int REACH = 0;
    private static final int DOTS_OF_EACH = 1;
    private static final int DOTS_ON_A_NOTE = 2;
    private static final int SETTINGS = 3;
    private static final int[] LEAST_SETTING = {0, 1, 1};
    private static final int[] MOST_SETTING = {20, 9, 9};
    private static final int[] FIRST_SETTING = {3, 4, 2};

    /** What load() answers if the fault of the text is its first character. */
    private static final int FIRST_FAULT = -100;

    private final Board board;
    private final History history;
    private final Board snapshot;
    private boolean hasSnapshot;
    private final char[] text;
    private int textLength;

    // Rows for reckoning, made once: nothing is kept in them between two calls.
    private final Board trial;
    private final Heaps heapsNow;
    private final Heaps heapsThen;
    private final Names names;
    private final BoardText boardText;

    /** Creates an empty board. */
    public NoteThemes() {
        board = new Board();
        history = new History();
        snapshot = new Board();
        hasSnapshot = false;
        text = new char[MOST_CHARACTERS];
        textLength = 0;
        trial = new Board();
        heapsNow = new Heaps();
        heapsThen = new Heaps();
        names = new Names();
        boardText = new BoardText(trial);
    }

    // ---- notes

    /** Puts a note onto the board. */
    public int put(int column, int row) {
        if (!isPlace(column, row)) {
            return UNKNOWN;
        }
        if (board.notes >= MOST_NOTES) {
            return FULL;
        }
        history.remember(board);
        board.addNote(column, row);
        return board.notes - 1;
    }

    /** Makes the board that of the text. */
    public int load() {
        // The trial board gets the settings too, as they bound the dots in the text.
        trial.copyFrom(board);
        trial.removeAll();
        int fault = boardText.findFault(text, textLength);
        if (fault != BoardText.NO_FAULT) {
            return FIRST_FAULT - fault;
        }
        // 80 characters hold 20 notes at the most, so this is for a longer text.
        if (boardText.notesRead > MOST_NOTES) {
            return FULL;
        }
        history.remember(board);
        board.copyFrom(trial);
        return board.notes;
    }

    /** Takes a note off. */
    public int takeOff(int note) {
        if (!board.hasNote(note)) {
            return UNKNOWN;
        }
        history.remember(board);
        int back = board.dotsOn(note);
        board.removeNote(note);
        return back;
    }

    /** Drags a note to a place. */
    public int drag(int note, int column, int row) {
        if (!board.hasNote(note) || !isPlace(column, row)) {
            return UNKNOWN;
        }
        if (board.columnOf[note] == column && board.rowOf[note] == row) {
            return NONE;
        }
        history.remember(board);
        board.moveNote(note, column, row);
        return findHeaps();
    }

    /** Drags a heap, all its notes alike. */
    public int dragHeap(int heap, int right, int down) {
        findHeaps();
        if (!heapsNow.has(heap)) {
            return UNKNOWN;
        }
        if (!isWithin(right, 1 - COLUMNS, COLUMNS - 1) || !isWithin(down, 1 - ROWS, ROWS - 1)) {
            return BAD_VALUE;
        }
        if (!staysOnBoard(heap, right, down)) {
            return NOT_POSSIBLE;
        }
        if (right == 0 && down == 0) {
            return NONE;
        }
        history.remember(board);
        moveHeap(heap, right, down);
        return findHeaps();
    }

    // ---- dots

    /** A person sticks a dot on a note. */
    public int stick(int person, int note) {
        if (!isPerson(person) || !board.hasNote(note)) {
            return UNKNOWN;
        }
        if (board.dotsLeft(person) == 0) {
            return FULL;
        }
        if (board.hasMostDots(person, note)) {
            return NOT_POSSIBLE;
        }
        history.remember(board);
        board.addDots(person, note, 1);
        return board.dotsOn(note);
    }

    /** A person takes a dot off a note. */
    public int unstick(int person, int note) {
        if (!isPerson(person) || !board.hasNote(note)) {
            return UNKNOWN;
        }
        if (board.dotsOfPerson(person, note) == 0) {
            return NOT_POSSIBLE;
        }
        history.remember(board);
        board.addDots(person, note, -1);
        return board.dotsOn(note);
    }

    // ---- themes

    /** Makes a theme of a heap. */
    public int make(int heap) {
        findHeaps();
        if (!heapsNow.has(heap)) {
            return UNKNOWN;
        }
        if (heapsNow.freeNotesIn(heap, board) == 0) {
            return NOT_POSSIBLE;
        }
        if (board.themes >= MOST_THEMES) {
            return FULL;
        }
        history.remember(board);
        int theme = board.addTheme();
        for (int note = 0; note < board.notes; note++) {
            if (heapsNow.heapOf[note] == heap && board.themeOf[note] == NONE) {
                board.themeOf[note] = theme;
            }
        }
        return theme;
    }

    /** Merges two themes; the second one goes. */
    public int merge(int first, int second) {
        if (!board.hasTheme(first) || !board.hasTheme(second)) {
            return UNKNOWN;
        }
        if (first == second) {
            return BAD_VALUE;
        }
        history.remember(board);
        board.mergeThemes(first, second);
        // The first one has moved up if the one that went was ahead of it.
        return board.notesOfTheme(second < first ? first - 1 : first);
    }

    /** Lets a note belong to a theme, or to none. */
    public int belong(int note, int theme) {
        if (!board.hasNote(note) || (theme != NONE && !board.hasTheme(theme))) {
            return UNKNOWN;
        }
        int before = board.themeOf[note];
        if (before == theme) {
            return NONE;
        }
        history.remember(board);
        board.themeOf[note] = theme;
        board.removeThemeIfEmpty(before);
        return board.themes;
    }

    /** A person votes for a name of a theme, in place of the vote before. */
    public int vote(int person, int theme, int name) {
        if (!isPerson(person) || !board.hasTheme(theme)) {
            return UNKNOWN;
        }
        if (name != NONE && !isName(name)) {
            return BAD_VALUE;
        }
        if (board.voteOf(person, theme) == name) {
            return NONE;
        }
        history.remember(board);
        board.setVote(person, theme, name);
        names.choose(board);
        return names.nameOf[theme] == NONE ? NO_NAME : names.nameOf[theme];
    }

    /** Sets a setting: 0 the reach, 1 the dots of each, 2 the most of one person on a note. */
    public int set(int which, int value) {
        if (!isWithin(which, 0, SETTINGS - 1)) {
            return UNKNOWN;
        }
        if (!isWithin(value, LEAST_SETTING[which], MOST_SETTING[which])) {
            return BAD_VALUE;
        }
        int before = board.settings[which];
        if (before == value) {
            return NONE;
        }
        history.remember(board);
        board.settings[which] = value;
        return before;
    }

    // ---- texts

    /** Types a character behind the text. */
    public int type(char character) {
        if (textLength >= MOST_CHARACTERS) {
            return FULL;
        }
        text[textLength] = character;
        textLength++;
        return textLength;
    }

    /** Empties the text. */
    public int clearText() {
        int before = textLength;
        textLength = 0;
        return before;
    }

    // ---- history

    /** Removes and restores the latest state of the history. */
    public int undo() {
        if (history.states == 0) {
            return NONE;
        }
        history.takeBack(board);
        return history.states;
    }

    /** Takes a snapshot of the state, in place of the one that was. */
    public int keep() {
        snapshot.copyFrom(board);
        hasSnapshot = true;
        return board.notes;
    }

    /** Restores the state of the snapshot, which stays. */
    public int restore() {
        if (!hasSnapshot) {
            return NONE;
        }
        history.remember(board);
        board.copyFrom(snapshot);
        return board.notes;
    }

    // ---- what is told

    /** Tells of a note: 0 column, 1 row, 2 dots, 3 heap, 4 theme, 5 notes near, 6 whether it holds its heap. */
    public int note(int note, int what) {
        if (!board.hasNote(note)) {
            return UNKNOWN;
        }
        switch (what) {
            case 0:
                return board.columnOf[note];
            case 1:
                return board.rowOf[note];
            case 2:
                return board.dotsOn(note);
            case 3:
                findHeaps();
                return heapsNow.heapOf[note];
            case 4:
                return board.themeOf[note];
            case 5:
                return board.notesNear(note);
            case 6:
                return holdsItsHeap(note) ? 1 : 0;
            default:
                return BAD_VALUE;
        }
    }

    /** Tells how many dots of a person are on a note. */
    public int dots(int person, int note) {
        if (!isPerson(person) || !board.hasNote(note)) {
            return UNKNOWN;
        }
        return board.dotsOfPerson(person, note);
    }

    /** Tells of a heap: 0 notes, 1 lowest note, 2 dots, 3 themes, 4 notes without one, 5 middle, 6 width. */
    public int heap(int heap, int what) {
        findHeaps();
        if (!heapsNow.has(heap)) {
            return UNKNOWN;
        }
        switch (what) {
            case 0:
                return heapsNow.notesIn(heap);
            case 1:
                return heapsNow.lowestNoteIn(heap);
            case 2:
                return heapsNow.dotsIn(heap, board);
            case 3:
                return themesInHeap(heap);
            case 4:
                return heapsNow.freeNotesIn(heap, board);
            case 5:
                return heapsNow.middleOf(heap, board);
            case 6:
                return heapsNow.widthOf(heap, board);
            default:
                return BAD_VALUE;
        }
    }

    /** Tells of a theme: 0 notes, 1 dots, 2 name, 3 rank, 4 heaps, 5 people that voted. */
    public int theme(int theme, int what) {
        if (!board.hasTheme(theme)) {
            return UNKNOWN;
        }
        switch (what) {
            case 0:
                return board.notesOfTheme(theme);
            case 1:
                return board.dotsOfTheme(theme);
            case 2:
                names.choose(board);
                return names.nameOf[theme];
            case 3:
                return rankOf(theme);
            case 4:
                return heapsOfTheme(theme);
            case 5:
                return board.votersOf(theme);
            default:
                return BAD_VALUE;
        }
    }

    /** Tells how many people voted for a name of a theme. */
    public int votes(int theme, int name) {
        if (!board.hasTheme(theme)) {
            return UNKNOWN;
        }
        if (!isName(name)) {
            return BAD_VALUE;
        }
        return board.votesFor(theme, name);
    }

    /** Tells what a drag would do: 0 heaps then, 1 notes in its heap then, 2 notes it would part from. */
    public int ifDragged(int note, int column, int row, int what) {
        if (!board.hasNote(note) || !isPlace(column, row)) {
            return UNKNOWN;
        }
        if (!isWithin(what, 0, 2)) {
            return BAD_VALUE;
        }
        findHeaps();
        trial.copyFrom(board);
        trial.moveNote(note, column, row);
        heapsThen.find(trial, trial.settings[REACH]);
        if (what == 0) {
            return heapsThen.number;
        }
        if (what == 1) {
            return heapsThen.notesIn(heapsThen.heapOf[note]);
        }
        return notesParted(note);
    }

    /** Finds the least reach with which there are no more heaps than told. */
    public int reachFor(int heaps) {
        if (!isWithin(heaps, 1, MOST_NOTES)) {
            return BAD_VALUE;
        }
        // A greater reach never makes more heaps, so the steps can be halved; all
        // steps together lead beyond the distance of the furthest two places.
        int tooShort = -1;
        for (int step = 32; step > 0; step /= 2) {
            if (heapsThen.find(board, tooShort + step) > heaps) {
                tooShort += step;
            }
        }
        return tooShort + 1;
    }

    /** Finds the theme whose notes lie nearest to a note. */
    public int nearest(int note) {
        if (!board.hasNote(note)) {
            return UNKNOWN;
        }
        int best = NONE;
        int least = COLUMNS + ROWS;
        for (int other = 0; other < board.notes; other++) {
            int theme = board.themeOf[other];
            if (other == note || theme == NONE) {
                continue;
            }
            int distance = board.distance(note, other);
            if (distance < least || (distance == least && theme < best)) {
                best = theme;
                least = distance;
            }
        }
        return best;
    }

    /** Counts: 0 notes, 1 heaps, 2 themes, 3 dots stuck, 4 dots left, 5 notes without a theme, and so on. */
    public int count(int what) {
        switch (what) {
            case 0:
                return board.notes;
            case 1:
                return findHeaps();
            case 2:
                return board.themes;
            case 3:
                return board.allDotsStuck();
            case 4:
                return board.allDotsLeft();
            case 5:
                return board.notesOfTheme(NONE);
            case 6:
                return names.choose(board);
            case 7:
                return notesAlone();
            case 8:
            case 9:
            case 10:
                return board.settings[what - 8];
            case 11:
                return history.states;
            case 12:
                return textLength;
            default:
                return BAD_VALUE;
        }
    }

    // ---- what the calls above share

    private static boolean isWithin(int value, int least, int most) {
        return value >= least && value <= most;
    }

    private static boolean isPlace(int column, int row) {
        return isWithin(column, 0, COLUMNS - 1) && isWithin(row, 0, ROWS - 1);
    }

    private static boolean isPerson(int person) {
        return isWithin(person, 0, PEOPLE - 1);
    }

    private static boolean isName(int name) {
        return isWithin(name, 0, NAMES - 1);
    }

    /** Finds the heaps of the board as it is, and tells how many there are. */
    private int findHeaps() {
        return heapsNow.find(board, board.settings[REACH]);
    }

    private boolean staysOnBoard(int heap, int right, int down) {
        for (int note = 0; note < board.notes; note++) {
            if (heapsNow.heapOf[note] == heap && !isPlace(board.columnOf[note] + right, board.rowOf[note] + down)) {
                return false;
            }
        }
        return true;
    }

    private void moveHeap(int heap, int right, int down) {
        for (int note = 0; note < board.notes; note++) {
            if (heapsNow.heapOf[note] == heap) {
                board.moveNote(note, board.columnOf[note] + right, board.rowOf[note] + down);
            }
        }
    }

    private boolean holdsItsHeap(int note) {
        int now = findHeaps();
        trial.copyFrom(board);
        trial.removeNote(note);
        // The other heaps stay as they are, so more heaps mean that its own fell apart.
        return heapsThen.find(trial, trial.settings[REACH]) > now;
    }

    private int notesParted(int note) {
        int parted = 0;
        for (int other = 0; other < board.notes; other++) {
            if (heapsNow.heapOf[other] == heapsNow.heapOf[note]
                    && heapsThen.heapOf[other] != heapsThen.heapOf[note]) {
                parted++;
            }
        }
        return parted;
    }

    private int themesInHeap(int heap) {
        int found = 0;
        for (int theme = 0; theme < board.themes; theme++) {
            if (meet(heap, theme)) {
                found++;
            }
        }
        return found;
    }

    private int heapsOfTheme(int theme) {
        int number = findHeaps();
        int found = 0;
        for (int heap = 0; heap < number; heap++) {
            if (meet(heap, theme)) {
                found++;
            }
        }
        return found;
    }

    /** Whether a note is in the heap and belongs to the theme. */
    private boolean meet(int heap, int theme) {
        for (int note = 0; note < board.notes; note++) {
            if (heapsNow.heapOf[note] == heap && board.themeOf[note] == theme) {
                return true;
            }
        }
        return false;
    }

    private int rankOf(int theme) {
        int dots = board.dotsOfTheme(theme);
        int ahead = 0;
        for (int other = 0; other < board.themes; other++) {
            int othersDots = board.dotsOfTheme(other);
            if (othersDots > dots || (othersDots == dots && other < theme)) {
                ahead++;
            }
        }
        return ahead;
    }

    private int notesAlone() {
        int number = findHeaps();
        int alone = 0;
        for (int heap = 0; heap < number; heap++) {
            if (heapsNow.notesIn(heap) == 1) {
                alone++;
            }
        }
        return alone;
    }

    /** A state: the notes with their dots, the themes with their votes, and the settings. */
    private static final class Board {
        int notes;
        final int[] columnOf;
        final int[] rowOf;
        /** The theme of each note, or NONE. */
        final int[] themeOf;
        /** The dots of each person on each note, the people of one note side by side. */
        private final int[] dotsAt;
        int themes;
        /** The name that each person votes for, or NONE, the people of one theme side by side. */
        private final int[] votedAt;
        final int[] settings;

        Board() {
            notes = 0;
            columnOf = new int[MOST_NOTES];
            rowOf = new int[MOST_NOTES];
            themeOf = new int[MOST_NOTES];
            dotsAt = new int[MOST_NOTES * PEOPLE];
            themes = 0;
            votedAt = new int[MOST_THEMES * PEOPLE];
            settings = new int[SETTINGS];
            System.arraycopy(FIRST_SETTING, 0, settings, 0, SETTINGS);
        }

        void copyFrom(Board other) {
            notes = other.notes;
            System.arraycopy(other.columnOf, 0, columnOf, 0, MOST_NOTES);
            System.arraycopy(other.rowOf, 0, rowOf, 0, MOST_NOTES);
            System.arraycopy(other.themeOf, 0, themeOf, 0, MOST_NOTES);
            System.arraycopy(other.dotsAt, 0, dotsAt, 0, MOST_NOTES * PEOPLE);
            themes = other.themes;
            System.arraycopy(other.votedAt, 0, votedAt, 0, MOST_THEMES * PEOPLE);
            System.arraycopy(other.settings, 0, settings, 0, SETTINGS);
        }

        /** Takes all notes off, and with them the themes go; the settings stay. */
        void removeAll() {
            notes = 0;
            themes = 0;
        }

        boolean hasNote(int note) {
            return note >= 0 && note < notes;
        }

        boolean hasTheme(int theme) {
            return theme >= 0 && theme < themes;
        }

        /** The caller has seen that there is room. */
        void addNote(int column, int row) {
            int note = notes;
            notes++;
            moveNote(note, column, row);
            themeOf[note] = NONE;
            for (int person = 0; person < PEOPLE; person++) {
                dotsAt[note * PEOPLE + person] = 0;
            }
        }

        void moveNote(int note, int column, int row) {
            columnOf[note] = column;
            rowOf[note] = row;
        }

        void removeNote(int note) {
            int theme = themeOf[note];
            for (int to = note; to < notes - 1; to++) {
                copyNote(to + 1, to);
            }
            notes--;
            removeThemeIfEmpty(theme);
        }

        private void copyNote(int from, int to) {
            moveNote(to, columnOf[from], rowOf[from]);
            themeOf[to] = themeOf[from];
            for (int person = 0; person < PEOPLE; person++) {
                dotsAt[to * PEOPLE + person] = dotsAt[from * PEOPLE + person];
            }
        }

        int distance(int first, int second) {
            return Math.abs(columnOf[first] - columnOf[second]) + Math.abs(rowOf[first] - rowOf[second]);
        }

        int notesNear(int note) {
            int near = 0;
            for (int other = 0; other < notes; other++) {
                if (other != note && distance(note, other) <= settings[REACH]) {
                    near++;
                }
            }
            return near;
        }

        int dotsOfPerson(int person, int note) {
            return dotsAt[note * PEOPLE + person];
        }

        void addDots(int person, int note, int more) {
            dotsAt[note * PEOPLE + person] += more;
        }

        int dotsOn(int note) {
            int dots = 0;
            for (int person = 0; person < PEOPLE; person++) {
                dots += dotsOfPerson(person, note);
            }
            return dots;
        }

        /** How many dots a person can still stick: not below 0, though a setting was made less. */
        int dotsLeft(int person) {
            int left = settings[DOTS_OF_EACH];
            for (int note = 0; note < notes; note++) {
                left -= dotsOfPerson(person, note);
            }
            return Math.max(left, 0);
        }

        boolean hasMostDots(int person, int note) {
            return dotsOfPerson(person, note) >= settings[DOTS_ON_A_NOTE];
        }

        int allDotsStuck() {
            int stuck = 0;
            for (int note = 0; note < notes; note++) {
                stuck += dotsOn(note);
            }
            return stuck;
        }

        int allDotsLeft() {
            int left = 0;
            for (int person = 0; person < PEOPLE; person++) {
                left += dotsLeft(person);
            }
            return left;
        }

        /** Adds a theme, as yet without notes and votes; the caller has seen that there is room. */
        int addTheme() {
            int theme = themes;
            themes++;
            for (int person = 0; person < PEOPLE; person++) {
                setVote(person, theme, NONE);
            }
            return theme;
        }

        void mergeThemes(int first, int second) {
            for (int note = 0; note < notes; note++) {
                if (themeOf[note] == second) {
                    themeOf[note] = first;
                }
            }
            for (int person = 0; person < PEOPLE; person++) {
                if (voteOf(person, first) == NONE) {
                    setVote(person, first, voteOf(person, second));
                }
            }
            removeThemeIfEmpty(second);
        }

        /** Lets a theme go if no note belongs to it; NONE is left as it is. */
        void removeThemeIfEmpty(int theme) {
            if (theme == NONE || notesOfTheme(theme) > 0) {
                return;
            }
            for (int note = 0; note < notes; note++) {
                if (themeOf[note] > theme) {
                    themeOf[note]--;
                }
            }
            for (int to = theme; to < themes - 1; to++) {
                for (int person = 0; person < PEOPLE; person++) {
                    setVote(person, to, voteOf(person, to + 1));
                }
            }
            themes--;
        }

        /** How many notes belong to a theme, or to none with NONE. */
        int notesOfTheme(int theme) {
            int found = 0;
            for (int note = 0; note < notes; note++) {
                if (themeOf[note] == theme) {
                    found++;
                }
            }
            return found;
        }

        int dotsOfTheme(int theme) {
            int dots = 0;
            for (int note = 0; note < notes; note++) {
                if (themeOf[note] == theme) {
                    dots += dotsOn(note);
                }
            }
            return dots;
        }

        int voteOf(int person, int theme) {
            return votedAt[theme * PEOPLE + person];
        }

        void setVote(int person, int theme, int name) {
            votedAt[theme * PEOPLE + person] = name;
        }

        /** How many people voted for a name of a theme, or for none with NONE. */
        int votesFor(int theme, int name) {
            int found = 0;
            for (int person = 0; person < PEOPLE; person++) {
                if (voteOf(person, theme) == name) {
                    found++;
                }
            }
            return found;
        }

        int votersOf(int theme) {
            return PEOPLE - votesFor(theme, NONE);
        }
    }

    /** The heaps that were found last, numbered by their lowest notes. */
    private static final class Heaps {
        int number;
        private int notes;
        final int[] heapOf;
        /** The lowest note that each note is known to hang together with. */
        private final int[] lowestOf;

        Heaps() {
            number = 0;
            notes = 0;
            heapOf = new int[MOST_NOTES];
            lowestOf = new int[MOST_NOTES];
        }

        /** Finds the heaps of a board with a reach, and tells how many there are. */
        int find(Board board, int reach) {
            notes = board.notes;
            for (int note = 0; note < notes; note++) {
                lowestOf[note] = note;
            }
            for (int note = 0; note < notes; note++) {
                for (int other = 0; other < note; other++) {
                    if (lowestOf[other] != lowestOf[note] && board.distance(other, note) <= reach) {
                        join(lowestOf[other], lowestOf[note]);
                    }
                }
            }
            numberThem();
            return number;
        }

        private void join(int oneLowest, int otherLowest) {
            int lower = Math.min(oneLowest, otherLowest);
            int higher = Math.max(oneLowest, otherLowest);
            for (int note = 0; note < notes; note++) {
                if (lowestOf[note] == higher) {
                    lowestOf[note] = lower;
                }
            }
        }

        private void numberThem() {
            number = 0;
            for (int note = 0; note < notes; note++) {
                if (lowestOf[note] == note) {
                    heapOf[note] = number;
                    number++;
                } else {
                    heapOf[note] = heapOf[lowestOf[note]];
                }
            }
        }

        boolean has(int heap) {
            return heap >= 0 && heap < number;
        }

        int notesIn(int heap) {
            int found = 0;
            for (int note = 0; note < notes; note++) {
                if (heapOf[note] == heap) {
                    found++;
                }
            }
            return found;
        }

        int lowestNoteIn(int heap) {
            for (int note = 0; note < notes; note++) {
                if (heapOf[note] == heap) {
                    return note;
                }
            }
            return NONE;
        }

        int dotsIn(int heap, Board board) {
            int dots = 0;
            for (int note = 0; note < notes; note++) {
                if (heapOf[note] == heap) {
                    dots += board.dotsOn(note);
                }
            }
            return dots;
        }

        /** How many notes of a heap belong to no theme. */
        int freeNotesIn(int heap, Board board) {
            int free = 0;
            for (int note = 0; note < notes; note++) {
                if (heapOf[note] == heap && board.themeOf[note] == NONE) {
                    free++;
                }
            }
            return free;
        }

        /** The note with the least distance to all others of its heap, together. */
        int middleOf(int heap, Board board) {
            int middle = NONE;
            int least = MOST_NOTES * (COLUMNS + ROWS);
            for (int note = 0; note < notes; note++) {
                if (heapOf[note] == heap) {
                    int together = distancesTo(note, board);
                    if (together < least) {
                        middle = note;
                        least = together;
                    }
                }
            }
            return middle;
        }

        private int distancesTo(int note, Board board) {
            int together = 0;
            for (int other = 0; other < notes; other++) {
                if (heapOf[other] == heapOf[note]) {
                    together += board.distance(note, other);
                }
            }
            return together;
        }

        /** The greatest distance of two notes of a heap. */
        int widthOf(int heap, Board board) {
            int greatest = 0;
            for (int note = 0; note < notes; note++) {
                for (int other = 0; other < note; other++) {
                    if (heapOf[note] == heap && heapOf[other] == heap) {
                        greatest = Math.max(greatest, board.distance(note, other));
                    }
                }
            }
            return greatest;
        }
    }

    /** The names of the themes, as they were chosen last. */
    private static final class Names {
        private static final int LEAST_VOTES = 2;

        final int[] nameOf;

        Names() {
            nameOf = new int[MOST_THEMES];
        }

        /** Chooses the names of all themes, and tells how many themes have one. */
        int choose(Board board) {
            int named = 0;
            for (int theme = 0; theme < board.themes; theme++) {
                nameOf[theme] = bestName(board, theme);
                if (nameOf[theme] != NONE) {
                    named++;
                }
            }
            return named;
        }

        /** The themes of lower numbers have theirs by then. */
        private int bestName(Board board, int theme) {
            int best = NONE;
            int most = LEAST_VOTES - 1;
            for (int name = 0; name < NAMES; name++) {
                int votes = board.votesFor(theme, name);
                if (votes > most && !isTaken(name, theme)) {
                    best = name;
                    most = votes;
                }
            }
            return best;
        }

        private boolean isTaken(int name, int theme) {
            for (int lower = 0; lower < theme; lower++) {
                if (nameOf[lower] == name) {
                    return true;
                }
            }
            return false;
        }
    }

    /** The latest states, the oldest first; their rows are used again and again. */
    private static final class History {
        int states;
        private final Board[] kept;

        History() {
            states = 0;
            kept = new Board[MOST_STATES];
            for (int at = 0; at < MOST_STATES; at++) {
                kept[at] = new Board();
            }
        }

        void remember(Board board) {
            if (states >= MOST_STATES) {
                dropOldest();
            }
            kept[states].copyFrom(board);
            states++;
        }

        private void dropOldest() {
            Board oldest = kept[0];
            for (int at = 1; at < MOST_STATES; at++) {
                kept[at - 1] = kept[at];
            }
            kept[MOST_STATES - 1] = oldest;
            states--;
        }

        /** Makes the board the latest state, and removes it; the caller has seen that there is one. */
        void takeBack(Board board) {
            states--;
            board.copyFrom(kept[states]);
        }
    }

    /** Reads a board from a text, character by character. */
    private static final class BoardText {
        static final int NO_FAULT = -1;
        private static final int NO_DIGIT = -1;
        /** The dots in a text are this person's. */
        private static final int PERSON = 0;

        // The parts of a note in the text: what the next character may belong to.
        private static final int IN_COLUMN = 0;
        private static final int IN_ROW = 1;
        private static final int BEHIND_ROW = 2;

        private final Board board;
        int notesRead;
        private int part;
        private int number;
        private int column;

        /** Reads onto this board. */
        BoardText(Board board) {
            this.board = board;
            notesRead = 0;
            part = IN_COLUMN;
            number = NO_DIGIT;
            column = 0;
        }

        /** Puts the notes of the text onto the board, which is empty; tells the fault of the text, or NO_FAULT. */
        int findFault(char[] text, int length) {
            notesRead = 0;
            beginNumber(IN_COLUMN);
            for (int at = 0; at < length; at++) {
                if (!takes(text[at])) {
                    return at;
                }
            }
            return endsNote() ? NO_FAULT : length;
        }

        private void beginNumber(int partOfNote) {
            part = partOfNote;
            number = NO_DIGIT;
        }

        /** Takes a character if it is allowed at its place. */
        private boolean takes(char character) {
            switch (character) {
                case ',':
                    return takesComma();
                case '*':
                    return endsNote() && takesStar();
                case ';':
                    return takesSemicolon();
                default:
                    return character >= '0' && character <= '9' && takesDigit(character - '0');
            }
        }

        private boolean takesDigit(int digit) {
            if (part == BEHIND_ROW) {
                return false;
            }
            if (number == NO_DIGIT) {
                number = digit;
                return true;
            }
            int most = part == IN_COLUMN ? COLUMNS - 1 : ROWS - 1;
            if (number == 0 || number * 10 + digit > most) {
                return false;
            }
            number = number * 10 + digit;
            return true;
        }

        private boolean takesComma() {
            if (part != IN_COLUMN || number == NO_DIGIT) {
                return false;
            }
            column = number;
            beginNumber(IN_ROW);
            return true;
        }

        private boolean takesSemicolon() {
            if (!endsNote()) {
                return false;
            }
            beginNumber(IN_COLUMN);
            return true;
        }

        /** Whether a note may end here; if its row just ends, it is put onto the board. */
        private boolean endsNote() {
            if (part == IN_ROW && number != NO_DIGIT) {
                part = BEHIND_ROW;
                notesRead++;
                if (board.notes < MOST_NOTES) {
                    board.addNote(column, number);
                }
            }
            return part == BEHIND_ROW;
        }

        private boolean takesStar() {
            int note = board.notes - 1;
            if (board.dotsLeft(PERSON) == 0 || board.hasMostDots(PERSON, note)) {
                return false;
            }
            board.addDots(PERSON, note, 1);
            return true;
        }
    }
}

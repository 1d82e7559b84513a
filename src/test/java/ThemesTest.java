/** Promises 9 to 13, 22, 23 and 26: themes made of heaps, their notes, votes and names, and the settings. */
public final class ThemesTest {
    private static final int UNKNOWN = -1;
    private static final int BAD_VALUE = -2;
    private static final int FULL = -3;
    private static final int NOT_POSSIBLE = -4;
    private static final int NONE = -5;
    private static final int NO_NAME = 10;

    public static void main(String[] args) {
        promise9Make();
        promise9MakeMeetsItsBounds();
        promise10Merge();
        promise10MergeKeepsVotes();
        promise11Belong();
        promise11BelongLetsAnEmptyThemeGo();
        promise12Vote();
        promise12NamesByNumbers();
        promise13Set();
        promise22Theme();
        promise22Ranks();
        promise23Votes();
        promise26Nearest();
        actsAreRecordedAndErrorsChangeNothing();
        Check.end();
    }

    /** Three themes: of note 0, of the notes 1 and 2, of note 3. */
    private static NoteThemes threeThemes() {
        NoteThemes x = Boards.at(0, 0, 10, 0, 11, 0, 20, 0, 20, 10);
        x.make(0);
        x.make(1);
        x.make(2);
        return x;
    }

    private static void promise9Make() {
        Check.about("promise 9");
        NoteThemes x = Boards.at(0, 0, 2, 0, 20, 0, 20, 10);
        Check.due("make(0)", x.make(0), 0);
        Check.due("note(0, 4)", x.note(0, 4), 0);
        Check.due("note(1, 4)", x.note(1, 4), 0);
        Check.due("note(2, 4)", x.note(2, 4), NONE);
        Check.due("make(0) again", x.make(0), NOT_POSSIBLE);
        x.drag(2, 4, 0);
        Check.due("make(0), of the note without a theme", x.make(0), 1);
        Check.due("note(1, 4)", x.note(1, 4), 0);
        Check.due("note(2, 4)", x.note(2, 4), 1);
        Check.due("theme(1, 0)", x.theme(1, 0), 1);
        Check.due("theme(1, 5)", x.theme(1, 5), 0);
        Check.due("note(3, 4)", x.note(3, 4), NONE);
    }

    private static void promise9MakeMeetsItsBounds() {
        Check.about("promise 9");
        NoteThemes x = Boards.alone(9);
        for (int heap = 0; heap < 8; heap++) {
            Check.due("make(" + heap + ")", x.make(heap), heap);
        }
        Check.due("make(8), a ninth", x.make(8), FULL);
        Check.due("make(7), its notes have a theme", x.make(7), NOT_POSSIBLE);
        Check.due("make(9)", x.make(9), UNKNOWN);
        Check.due("make(-1)", x.make(-1), UNKNOWN);
        x.vote(0, 7, 3);
        x.belong(7, NONE);
        Check.due("make(8)", x.make(8), 7);
        Check.due("a new theme has no votes", x.votes(7, 3), 0);
    }

    private static void promise10Merge() {
        Check.about("promise 10");
        NoteThemes x = threeThemes();
        Check.due("merge(0, 3)", x.merge(0, 3), UNKNOWN);
        Check.due("merge(3, 3)", x.merge(3, 3), UNKNOWN);
        Check.due("merge(-1, 0)", x.merge(-1, 0), UNKNOWN);
        Check.due("merge(0, NONE)", x.merge(0, NONE), UNKNOWN);
        Check.due("merge(1, 1)", x.merge(1, 1), BAD_VALUE);
        x.belong(4, 2);
        Check.due("merge(2, 0)", x.merge(2, 0), 3);
        x.belong(4, NONE);
        Check.due("count(2)", x.count(2), 2);
        Check.due("note(0, 4)", x.note(0, 4), 1);
        Check.due("note(1, 4)", x.note(1, 4), 0);
        Check.due("note(3, 4)", x.note(3, 4), 1);
        Check.due("merge(0, 1)", x.merge(0, 1), 4);
        Check.due("count(2)", x.count(2), 1);
        Check.due("the note without a theme", x.note(4, 4), NONE);
    }

    private static void promise10MergeKeepsVotes() {
        Check.about("promise 10");
        NoteThemes x = threeThemes();
        x.vote(0, 0, 4);
        x.vote(1, 0, 5);
        x.vote(1, 2, 6);
        x.vote(2, 2, 7);
        x.vote(3, 1, 8);
        x.merge(0, 2);
        Check.due("only for the first", x.votes(0, 4), 1);
        Check.due("for both: that for the first", x.votes(0, 5), 1);
        Check.due("for both: not that for the second", x.votes(0, 6), 0);
        Check.due("only for the second", x.votes(0, 7), 1);
        Check.due("the others stay", x.votes(1, 8), 1);
        x.merge(1, 0);
        Check.due("theme(0, 5)", x.theme(0, 5), 4);
        Check.due("votes(0, 8)", x.votes(0, 8), 1);
        Check.due("votes(0, 7)", x.votes(0, 7), 1);
    }

    private static void promise11Belong() {
        Check.about("promise 11");
        NoteThemes x = threeThemes();
        Check.due("belong(5, 0)", x.belong(5, 0), UNKNOWN);
        Check.due("belong(-1, 0)", x.belong(-1, 0), UNKNOWN);
        Check.due("belong(0, 3)", x.belong(0, 3), UNKNOWN);
        Check.due("belong(0, -1)", x.belong(0, -1), UNKNOWN);
        Check.due("belong(0, -4)", x.belong(0, -4), UNKNOWN);
        Check.due("belong(0, 0)", x.belong(0, 0), NONE);
        Check.due("belong(4, NONE)", x.belong(4, NONE), NONE);
        Check.due("belong(4, 1)", x.belong(4, 1), 3);
        Check.due("note(4, 4)", x.note(4, 4), 1);
        Check.due("belong(1, NONE)", x.belong(1, NONE), 3);
        Check.due("note(1, 4)", x.note(1, 4), NONE);
    }

    private static void promise11BelongLetsAnEmptyThemeGo() {
        Check.about("promise 11");
        NoteThemes x = threeThemes();
        x.vote(0, 0, 1);
        x.vote(0, 1, 2);
        x.vote(0, 2, 3);
        Check.due("belong(0, 2)", x.belong(0, 2), 2);
        Check.due("note(0, 4)", x.note(0, 4), 1);
        Check.due("note(1, 4)", x.note(1, 4), 0);
        Check.due("note(3, 4)", x.note(3, 4), 1);
        Check.due("votes(0, 2)", x.votes(0, 2), 1);
        Check.due("votes(1, 3)", x.votes(1, 3), 1);
        Check.due("votes(1, 1)", x.votes(1, 1), 0);
        x.belong(0, NONE);
        Check.due("belong(3, NONE)", x.belong(3, NONE), 1);
        Check.due("belong(3, 1)", x.belong(3, 1), UNKNOWN);
    }

    private static void promise12Vote() {
        Check.about("promise 12");
        NoteThemes x = threeThemes();
        Check.due("vote(-1, 0, 0)", x.vote(-1, 0, 0), UNKNOWN);
        Check.due("vote(6, 0, 0)", x.vote(6, 0, 0), UNKNOWN);
        Check.due("vote(0, 3, 10)", x.vote(0, 3, 10), UNKNOWN);
        Check.due("vote(0, NONE, 0)", x.vote(0, NONE, 0), UNKNOWN);
        Check.due("vote(0, 0, 10)", x.vote(0, 0, 10), BAD_VALUE);
        Check.due("vote(0, 0, -1)", x.vote(0, 0, -1), BAD_VALUE);
        Check.due("vote(0, 0, -4)", x.vote(0, 0, -4), BAD_VALUE);
        Check.due("vote(0, 0, NONE)", x.vote(0, 0, NONE), NONE);
        Check.due("one vote is no name", x.vote(0, 0, 9), NO_NAME);
        Check.due("the same again", x.vote(0, 0, 9), NONE);
        Check.due("two votes are one", x.vote(5, 0, 9), 9);
        Check.due("in place of the vote before", x.vote(0, 0, 0), NO_NAME);
        Check.due("votes(0, 9)", x.votes(0, 9), 1);
        Check.due("vote(5, 0, 0)", x.vote(5, 0, 0), 0);
        Check.due("no name", x.vote(0, 0, NONE), NO_NAME);
        Check.due("theme(0, 5)", x.theme(0, 5), 1);
    }

    private static void promise12NamesByNumbers() {
        Check.about("promise 12");
        NoteThemes x = threeThemes();
        x.vote(0, 1, 4);
        Check.due("vote(1, 1, 4)", x.vote(1, 1, 4), 4);
        x.vote(2, 1, 2);
        Check.due("of several the lowest", x.vote(3, 1, 2), 2);
        Check.due("the most votes", x.vote(4, 1, 4), 4);
        x.vote(4, 0, 4);
        x.vote(5, 0, 4);
        Check.due("a lower theme has taken it", x.theme(1, 2), 2);
        x.vote(0, 2, 2);
        x.vote(1, 2, 2);
        x.vote(2, 2, 4);
        Check.due("both are taken", x.vote(3, 2, 4), NO_NAME);
        Check.due("vote(4, 2, 4)", x.vote(4, 2, 4), NO_NAME);
        Check.due("theme(2, 2)", x.theme(2, 2), NONE);
        Check.due("a name that goes", x.vote(5, 0, NONE), NO_NAME);
        Check.due("is free for the next", x.theme(1, 2), 4);
        Check.due("and that one's for the next but one", x.theme(2, 2), 2);
        x.takeOff(0);
        Check.due("the names when a theme has gone", x.theme(0, 2), 4);
        x.undo();
        Check.due("the names when it has come back", x.theme(0, 2), NONE);
        x.merge(2, 1);
        Check.due("the name of merged themes, that none has taken now", x.theme(1, 2), 4);
    }

    private static void promise13Set() {
        Check.about("promise 13");
        NoteThemes x = Boards.at(0, 0, 4, 0);
        int[] least = {0, 1, 1};
        int[] most = {20, 9, 9};
        int[] first = {3, 4, 2};
        for (int which = 0; which < 3; which++) {
            Check.due("set below", x.set(which, least[which] - 1), BAD_VALUE);
            Check.due("set beyond", x.set(which, most[which] + 1), BAD_VALUE);
            Check.due("set as it is", x.set(which, first[which]), NONE);
            Check.due("set to the most", x.set(which, most[which]), first[which]);
            Check.due("set to the least", x.set(which, least[which]), most[which]);
            Check.due("set again", x.set(which, least[which]), NONE);
            Check.due("count", x.count(8 + which), least[which]);
        }
        Check.due("set(-1, 1)", x.set(-1, 1), UNKNOWN);
        Check.due("set(3, 1)", x.set(3, 1), UNKNOWN);
        Check.due("set(3, 100)", x.set(3, 100), UNKNOWN);
        x.set(0, 3);
        Check.due("two heaps", x.count(1), 2);
        x.set(0, 4);
        Check.due("one heap", x.count(1), 1);
    }

    private static void promise22Theme() {
        Check.about("promise 22");
        NoteThemes x = threeThemes();
        x.stick(0, 1);
        x.stick(1, 1);
        x.stick(0, 2);
        x.stick(0, 4);
        x.vote(0, 1, 7);
        x.vote(1, 1, 7);
        x.vote(2, 1, 6);
        int[] due = {2, 3, 7, 0, 1, 3};
        for (int what = 0; what < due.length; what++) {
            Check.due("theme(1, " + what + ")", x.theme(1, what), due[what]);
        }
        Check.due("theme(0, 2)", x.theme(0, 2), NONE);
        Check.due("theme(0, 5)", x.theme(0, 5), 0);
        x.drag(2, 11, 19);
        Check.due("theme(1, 4)", x.theme(1, 4), 2);
        x.belong(4, 1);
        Check.due("theme(1, 4)", x.theme(1, 4), 3);
        x.drag(4, 12, 19);
        Check.due("theme(1, 4)", x.theme(1, 4), 2);
        Check.due("theme(1, 6)", x.theme(1, 6), BAD_VALUE);
        Check.due("theme(1, -1)", x.theme(1, -1), BAD_VALUE);
        Check.due("theme(3, 6)", x.theme(3, 6), UNKNOWN);
        Check.due("theme(-1, 0)", x.theme(-1, 0), UNKNOWN);
        Check.due("theme(NONE, 0)", x.theme(NONE, 0), UNKNOWN);
    }

    private static void promise22Ranks() {
        Check.about("promise 22");
        NoteThemes x = threeThemes();
        ranks(x, 0, 1, 2);
        x.stick(0, 3);
        ranks(x, 1, 2, 0);
        x.stick(0, 1);
        ranks(x, 2, 0, 1);
        x.stick(1, 2);
        x.stick(1, 0);
        x.stick(2, 0);
        ranks(x, 0, 1, 2);
        x.stick(3, 3);
        x.stick(4, 3);
        ranks(x, 1, 2, 0);
    }

    private static void ranks(NoteThemes x, int... due) {
        for (int theme = 0; theme < due.length; theme++) {
            Check.due("theme(" + theme + ", 3)", x.theme(theme, 3), due[theme]);
        }
    }

    private static void promise23Votes() {
        Check.about("promise 23");
        NoteThemes x = threeThemes();
        x.vote(0, 0, 0);
        x.vote(1, 0, 9);
        x.vote(2, 0, 9);
        x.vote(3, 1, 9);
        Check.due("votes(0, 0)", x.votes(0, 0), 1);
        Check.due("votes(0, 9)", x.votes(0, 9), 2);
        Check.due("votes(0, 5)", x.votes(0, 5), 0);
        Check.due("votes(1, 9)", x.votes(1, 9), 1);
        Check.due("votes(0, 10)", x.votes(0, 10), BAD_VALUE);
        Check.due("votes(0, -1)", x.votes(0, -1), BAD_VALUE);
        Check.due("votes(0, NONE)", x.votes(0, NONE), BAD_VALUE);
        Check.due("votes(3, 10)", x.votes(3, 10), UNKNOWN);
        Check.due("votes(-1, 0)", x.votes(-1, 0), UNKNOWN);
    }

    private static void promise26Nearest() {
        Check.about("promise 26");
        NoteThemes x = threeThemes();
        Check.due("nearest(5)", x.nearest(5), UNKNOWN);
        Check.due("nearest(-1)", x.nearest(-1), UNKNOWN);
        Check.due("nearest(4)", x.nearest(4), 2);
        Check.due("the note itself does not count", x.nearest(0), 1);
        Check.due("another of its theme does", x.nearest(1), 1);
        Check.due("nearest(3)", x.nearest(3), 1);
        x.drag(4, 5, 0);
        Check.due("of several the lowest", x.nearest(4), 0);
        x.belong(0, NONE);
        Check.due("nearest(4)", x.nearest(4), 0);
        x.belong(1, 1);
        Check.due("nearest(0)", x.nearest(0), 1);
        NoteThemes one = Boards.at(0, 0, 29, 19);
        Check.due("no theme", one.nearest(0), NONE);
        one.make(0);
        Check.due("no other note in a theme", one.nearest(0), NONE);
        Check.due("the furthest of all", one.nearest(1), 0);
        NoteThemes late = Boards.at(10, 0, 20, 0, 15, 0);
        late.make(1);
        late.make(0);
        Check.due("of several the lowest theme, not the lowest note", late.nearest(2), 0);
    }

    private static void actsAreRecordedAndErrorsChangeNothing() {
        Check.about("promises 9 to 13");
        NoteThemes x = Boards.at(0, 0, 10, 0);
        x.make(0);
        Check.due("count(11) behind make", x.count(11), 3);
        x.make(1);
        Check.due("count(11) behind make", x.count(11), 4);
        x.undo();
        Check.due("undo of make", x.count(2), 1);
        x.vote(0, 0, 3);
        Check.due("count(11) behind vote", x.count(11), 4);
        x.undo();
        Check.due("undo of vote", x.theme(0, 5), 0);
        x.belong(1, 0);
        Check.due("count(11) behind belong", x.count(11), 4);
        x.undo();
        Check.due("undo of belong", x.note(1, 4), NONE);
        x.set(0, 9);
        Check.due("count(11) behind set", x.count(11), 4);
        x.undo();
        Check.due("undo of set", x.count(8), 3);
        x.make(1);
        x.undo();
        x.undo();
        x.make(0);
        x.make(1);
        x.undo();
        x.make(1);
        x.merge(0, 1);
        x.undo();
        Check.due("undo of merge", x.count(2), 2);
        String before = Boards.told(x);
        x.make(0);
        x.make(2);
        x.merge(0, 0);
        x.merge(0, 2);
        x.belong(0, 0);
        x.belong(0, 2);
        x.vote(0, 0, NONE);
        x.vote(0, 0, 10);
        x.vote(6, 0, 1);
        x.set(0, 3);
        x.set(0, 21);
        x.set(3, 1);
        Check.holds("errors and NONE change nothing", before.equals(Boards.told(x)));
    }
}

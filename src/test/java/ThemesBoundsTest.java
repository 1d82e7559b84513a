/** The bounds of themes and names, sentence by sentence: the term THEMES, NAMES, and the promises 9 to 13. */
public final class ThemesBoundsTest {
    private static final int UNKNOWN = -1;
    private static final int BAD_VALUE = -2;
    private static final int FULL = -3;
    private static final int NOT_POSSIBLE = -4;
    private static final int NONE = -5;
    private static final int NO_NAME = 10;
    private static final int LEAST = Integer.MIN_VALUE;
    private static final int MOST = Integer.MAX_VALUE;
    private static final String TERM = "THEMES, NAMES";

    public static void main(String[] args) {
        termsOfThemes();
        termsOfNames();
        termsOfMerging();
        promise9();
        promise10();
        promise11();
        promise12();
        promise13();
        Check.end();
    }

    // ---- themes

    private static void termsOfThemes() {
        eightThemesInTheirOrder();
        numbersBehindTheOneThatGoes();
        notesThatBelongToNoThemeYet();
        oneThemeOrNone();
        themesWithoutNotes();
    }

    private static void eightThemesInTheirOrder() {
        Check.sentence(TERM, "At most 8 themes are kept, numbered from 0 in the order in which they were made");
        NoteThemes x = Boards.alone(9);
        for (int i = 0; i < 8; i++) {
            Check.due("make(" + (8 - i) + ")", x.make(8 - i), i);
            Check.due("the theme of its note", x.note(8 - i, 4), i);
            Check.due("themes", x.count(2), i + 1);
        }
        Check.due("a ninth", x.make(0), FULL);
        Check.due("themes", x.count(2), 8);
        Check.due("the theme 8", x.theme(8, 0), UNKNOWN);
        x.belong(5, NONE);
        Check.due("room for one", x.make(0), 7);
        Check.due("and for no other", x.make(5), FULL);
    }

    private static void numbersBehindTheOneThatGoes() {
        Check.sentence(TERM, "(if one goes, those behind it get numbers that are 1 less)");
        for (int gone = 0; gone < 8; gone++) {
            for (int way = 0; way < 4; way++) {
                NoteThemes x = Boards.themes(9, 8);
                for (int theme = 0; theme < 8; theme++) {
                    x.vote(theme % 6, theme, theme);
                }
                letGo(x, gone, way);
                Check.due("themes", x.count(2), 7);
                for (int theme = 0; theme < 7; theme++) {
                    int former = theme < gone ? theme : theme + 1;
                    int note = way == 0 && former > gone ? former - 1 : former;
                    Check.due("the theme of the note of the former " + former, x.note(note, 4), theme);
                    Check.due("the vote for it", x.votes(theme, former), 1);
                    Check.due("it is the same one's", x.vote(former % 6, theme, former), NONE);
                }
                Check.due("the theme 7", x.theme(7, 0), UNKNOWN);
            }
        }
    }

    /** The note of the theme is taken off, or belongs to none, or belongs to another, or the theme is merged. */
    private static void letGo(NoteThemes x, int gone, int way) {
        int other = gone == 7 ? 0 : 7;
        if (way == 0) {
            x.takeOff(gone);
        } else if (way == 1) {
            x.belong(gone, NONE);
        } else if (way == 2) {
            x.belong(gone, other);
        } else {
            x.merge(other, gone);
        }
    }

    private static void notesThatBelongToNoThemeYet() {
        Check.sentence(TERM, "A theme is made of all notes of a heap that belong to no theme yet.");
        NoteThemes x = Boards.at(0, 0, 1, 0, 20, 0, 2, 0, 3, 0);
        x.make(0);
        x.belong(1, NONE);
        x.belong(4, NONE);
        Check.due("make(0)", x.make(0), 1);
        int[] due = {0, 1, NONE, 0, 1};
        for (int note = 0; note < due.length; note++) {
            Check.due("the theme of the note " + note, x.note(note, 4), due[note]);
        }
        NoteThemes all = Boards.typed(Boards.times(20, "9,9"));
        all.load();
        Check.due("make(0)", all.make(0), 0);
        Check.due("all 20 of a heap", all.theme(0, 0), 20);
        all.belong(19, NONE);
        Check.due("make(0)", all.make(0), 1);
        Check.due("the only one without", all.theme(1, 0), 1);
        Check.due("the others stay", all.theme(0, 0), 19);
    }

    private static void oneThemeOrNone() {
        Check.sentence(TERM, "A note belongs to one theme, or to none.");
        NoteThemes x = Boards.themes(5, 3);
        int[][] moves = {{3, 0}, {3, 1}, {4, 2}, {3, NONE}, {4, 0}, {0, 1}, {3, 2}};
        for (int[] move : moves) {
            x.belong(move[0], move[1]);
            Check.due("its theme", x.note(move[0], 4), move[1]);
            int belonging = x.count(5);
            for (int theme = 0; theme < x.count(2); theme++) {
                belonging += x.theme(theme, 0);
            }
            Check.due("each note is counted once", belonging, 5);
        }
    }

    private static void themesWithoutNotes() {
        Check.sentence(TERM, "A theme without notes goes.");
        NoteThemes x = Boards.at(0, 0, 1, 0, 20, 0);
        x.make(0);
        x.make(1);
        x.drag(0, 20, 1);
        x.drag(1, 20, 2);
        Check.due("a theme stays when its notes are dragged away", x.count(2), 2);
        x.belong(0, 1);
        Check.due("a theme of one note stays", x.count(2), 2);
        x.belong(1, 1);
        Check.due("the last note belongs to another", x.count(2), 1);
        x.takeOff(0);
        x.takeOff(0);
        Check.due("a theme of one note stays", x.count(2), 1);
        x.takeOff(0);
        Check.due("the last note is taken off", x.count(2), 0);
        NoteThemes none = Boards.themes(1, 1);
        none.belong(0, NONE);
        Check.due("the last note belongs to none", none.count(2), 0);
        Check.due("a theme that has gone", none.theme(0, 0), UNKNOWN);
        none.undo();
        Check.due("it comes back by undo()", none.theme(0, 0), 1);
        Boards.typeAll(none, "1,1");
        none.load();
        Check.due("a new board has none", none.count(2), 0);
    }

    // ---- names

    private static void termsOfNames() {
        namesFromZeroToNine();
        oneVoteOrNone();
        namesByNumbers();
        twoPeopleOrMore();
        namesOfLowerThemes();
        mostVotesAndLowestName();
        noNameAtAll();
    }

    private static void namesFromZeroToNine() {
        Check.sentence(TERM, "Names are numbers from 0 to 9; no two themes have the same one.");
        for (int name = -1; name <= 10; name++) {
            NoteThemes x = Boards.themes(8, 8);
            boolean isName = name >= 0 && name <= 9;
            for (int theme = 0; theme < 8; theme++) {
                Check.due("the first vote", x.vote(0, theme, name), isName ? NO_NAME : BAD_VALUE);
                int due = !isName ? BAD_VALUE : theme == 0 ? name : NO_NAME;
                Check.due("the second vote", x.vote(5, theme, name), due);
                Check.due("votes", x.votes(theme, name), isName ? 2 : BAD_VALUE);
            }
            Check.due("themes with a name", x.count(6), isName ? 1 : 0);
        }
        NoteThemes eight = Boards.themes(8, 8);
        for (int theme = 0; theme < 8; theme++) {
            eight.vote(0, theme, 9 - theme);
            Check.due("a name of its own", eight.vote(1, theme, 9 - theme), 9 - theme);
        }
        Check.due("themes with a name", eight.count(6), 8);
    }

    private static void oneVoteOrNone() {
        Check.sentence(TERM, "People vote for names of a theme (each for one, or none).");
        NoteThemes x = Boards.themes(2, 2);
        Check.due("nobody has voted", x.theme(0, 5), 0);
        for (int name = 0; name <= 9; name++) {
            x.vote(3, 0, name);
            Check.due("one vote", x.theme(0, 5), 1);
            Check.due("for this name", x.votes(0, name), 1);
            Check.due("not for that before", name == 0 ? 0 : x.votes(0, name - 1), 0);
        }
        x.vote(3, 1, 9);
        Check.due("for another theme too", x.votes(1, 9), 1);
        x.vote(3, 0, NONE);
        Check.due("none", x.theme(0, 5), 0);
        Check.due("none for this name", x.votes(0, 9), 0);
        Check.due("that for the other theme stays", x.theme(1, 5), 1);
        for (int person = 0; person < 6; person++) {
            x.vote(person, 0, 4);
        }
        Check.due("all people", x.votes(0, 4), 6);
        Check.due("all people", x.theme(0, 5), 6);
    }

    private static void namesByNumbers() {
        Check.sentence(TERM, "Themes get their names by their numbers:");
        NoteThemes x = Boards.themes(8, 8);
        for (int lowest = 7; lowest >= 0; lowest--) {
            int own = (lowest + 6) % 10;
            votes(x, lowest, 5, 5, 5, own, own, NONE);
            Check.due("the lowest of them has the name", x.theme(lowest, 2), 5);
            for (int theme = lowest + 1; theme < 8; theme++) {
                Check.due("the others have that with the next most votes", x.theme(theme, 2), (theme + 6) % 10);
            }
        }
    }

    private static void twoPeopleOrMore() {
        Check.sentence(TERM, "of the names for which two people or more voted,");
        NoteThemes x = Boards.themes(1, 1);
        for (int person = 0; person < 6; person++) {
            Check.due("one vote for each name", x.vote(person, 0, person), NO_NAME);
        }
        Check.due("two votes for one", x.vote(0, 0, 5), 5);
        Check.due("one again", x.vote(0, 0, 9), NO_NAME);
        NoteThemes same = Boards.themes(1, 1);
        same.vote(2, 0, 7);
        Check.due("the same person twice", same.vote(2, 0, 7), NONE);
        Check.due("is one", same.theme(0, 2), NONE);
    }

    private static void namesOfLowerThemes() {
        Check.sentence(TERM, "and that no theme of a lower number has,");
        NoteThemes x = Boards.themes(3, 3);
        votes(x, 2, 4, 4, 4, 4, 4, 4);
        Check.due("all votes", x.theme(2, 2), 4);
        votes(x, 1, 4, 4, NONE, NONE, NONE, NONE);
        Check.due("a lower number has it", x.theme(1, 2), 4);
        Check.due("so this one has not", x.theme(2, 2), NONE);
        votes(x, 0, 4, NONE, NONE, NONE, NONE, NONE);
        Check.due("votes alone do not keep a name", x.theme(1, 2), 4);
        votes(x, 0, 4, 3, 3, 4, 3, NONE);
        Check.due("nor do two votes for it, if there is a better name", x.theme(0, 2), 3);
        Check.due("it stays", x.theme(1, 2), 4);
        x.belong(1, 2);
        Check.due("the lower one has gone", x.theme(1, 2), 4);
    }

    private static void mostVotesAndLowestName() {
        Check.sentence(TERM, "the one with the most votes, of several the lowest;");
        NoteThemes x = Boards.themes(2, 2);
        votes(x, 0, 9, 9, 0, 0, 8, 8);
        Check.due("of three with two each", x.theme(0, 2), 0);
        votes(x, 0, 9, 9, 9, 8, 8, 8);
        Check.due("of two with three each", x.theme(0, 2), 8);
        votes(x, 0, 9, 9, 9, 9, 0, 0);
        Check.due("four against two", x.theme(0, 2), 9);
        votes(x, 0, 3, 3, 3, 1, 1, 0);
        Check.due("three against two", x.theme(0, 2), 3);
        votes(x, 1, 3, 3, 3, 9, 9, 0);
        Check.due("the most is taken, so that with the next most", x.theme(1, 2), 9);
        votes(x, 1, 3, 3, 6, 6, 5, 5);
        Check.due("of several that are free the lowest", x.theme(1, 2), 5);
    }

    private static void noNameAtAll() {
        Check.sentence(TERM, "none without such a name.");
        NoteThemes x = Boards.themes(2, 2);
        Check.due("no votes", x.theme(0, 2), NONE);
        votes(x, 0, 0, 1, 2, 3, 4, 5);
        Check.due("one vote for each", x.theme(0, 2), NONE);
        votes(x, 0, 0, 0, NONE, NONE, NONE, NONE);
        votes(x, 1, 0, 0, 0, 0, 0, 1);
        Check.due("the only name is taken", x.theme(1, 2), NONE);
        Check.due("themes with a name", x.count(6), 1);
        Check.due("what vote() answers", x.vote(5, 1, 2), NO_NAME);
    }

    private static void votes(NoteThemes x, int theme, int... names) {
        for (int person = 0; person < names.length; person++) {
            x.vote(person, theme, names[person]);
        }
    }

    // ---- merging

    private static void termsOfMerging() {
        Check.sentence(TERM, "Themes are merged: the notes of the second one come to the first one;");
        NoteThemes x = Boards.themes(7, 3);
        x.belong(3, 0);
        x.belong(4, 1);
        x.belong(5, 2);
        Check.due("merge(2, 0)", x.merge(2, 0), 4);
        int[] due = {1, 0, 1, 1, 0, 1, NONE};
        for (int note = 0; note < due.length; note++) {
            Check.due("the theme of the note " + note, x.note(note, 4), due[note]);
        }

        Check.sentence(TERM, "the votes of both are kept: of each person that for the first one, if there is one,"
            + " otherwise that for the second one.");
        for (int order = 0; order < 2; order++) {
            int first = order == 0 ? 0 : 2;
            int second = 2 - first;
            NoteThemes y = Boards.themes(3, 3);
            votes(y, first, 1, 2, NONE, NONE, 0, NONE);
            votes(y, second, 3, NONE, 4, NONE, 0, 0);
            y.vote(3, 1, 8);
            y.merge(first, second);
            int kept = y.note(first, 4);
            int[] names = {1, 2, 4, NONE, 0, 0};
            for (int person = 0; person < 6; person++) {
                Check.due("the vote of the person " + person, y.vote(person, kept, names[person]), NONE);
            }
            Check.due("people that voted", y.theme(kept, 5), 5);
            Check.due("a name by votes of both", y.theme(kept, 2), 0);
            Check.due("the vote for another theme", y.votes(1 - kept, 8), 1);
        }
        for (int person = 0; person < 6; person++) {
            Check.due("none and none", mergedVote(person, NONE, NONE), NONE);
            Check.due("only for the first one", mergedVote(person, 9, NONE), 9);
            Check.due("only for the second one", mergedVote(person, NONE, 0), 0);
            Check.due("for both", mergedVote(person, 9, 0), 9);
        }
    }

    /** For which name a person has voted when two themes are merged; NONE for none. */
    private static int mergedVote(int person, int first, int second) {
        NoteThemes x = Boards.themes(2, 2);
        x.vote(person, 0, first);
        x.vote(person, 1, second);
        x.merge(0, 1);
        for (int name = 0; name <= 9; name++) {
            if (x.votes(0, name) == 1) {
                return name;
            }
        }
        return NONE;
    }

    // ---- Promise 9: make

    private static void promise9() {
        Check.sentence("Promise 9", "Makes a theme of a heap. This is an act.");
        Compare.recorded(Before.SOME, "make(2)", 2, x -> x.make(2));
        NoteThemes made = Boards.at(0, 0, 1, 1, 20, 0);
        made.make(0);
        Check.due("notes of the theme", made.theme(0, 0), 2);
        Check.due("it has no votes", made.theme(0, 5), 0);
        Check.due("it has no name", made.theme(0, 2), NONE);

        Check.sentence("Promise 9", "`heap`: a heap");
        Compare.unchanged(Before.SOME, "make(-1)", UNKNOWN, x -> x.make(-1));
        Compare.unchanged(Before.SOME, "make(3)", UNKNOWN, x -> x.make(Before.SOME_HEAPS));
        Check.due("the first heap", Boards.alone(20).make(0), 0);
        Check.due("the last heap", Boards.alone(20).make(19), 0);
        Check.due("one heap more", Boards.alone(20).make(20), UNKNOWN);
        Check.due("make(LEAST)", Boards.at(0, 0).make(LEAST), UNKNOWN);
        Check.due("make(MOST)", Boards.at(0, 0).make(MOST), UNKNOWN);

        Check.sentence("Promise 9", "Returns its number;");
        NoteThemes x = Boards.alone(8);
        for (int theme = 0; theme < 8; theme++) {
            Check.due("make", x.make(7 - theme), theme);
        }
        x.belong(7, NONE);
        Check.due("the number of the last one, when one has gone", x.make(7), 7);

        Check.sentence("Promise 9", "UNKNOWN;");
        Compare.unchanged(Before.EMPTY, "make(0)", UNKNOWN, y -> y.make(0));
        Compare.unchanged(Before.FULL, "make(20) ahead of FULL", UNKNOWN, y -> y.make(20));
        Compare.unchanged(Before.FULL, "make(-1) ahead of FULL", UNKNOWN, y -> y.make(-1));

        Check.sentence("Promise 9", "NOT_POSSIBLE if all its notes belong to themes;");
        Compare.unchanged(Before.SOME, "make(0)", NOT_POSSIBLE, y -> y.make(0));
        Compare.unchanged(Before.SOME, "make(1)", NOT_POSSIBLE, y -> y.make(1));
        Compare.unchanged(Before.FULL, "make(7) ahead of FULL", NOT_POSSIBLE, y -> y.make(7));
        NoteThemes two = Boards.themes(2, 2);
        two.drag(0, 4, 0);
        Check.due("to several themes", two.make(0), NOT_POSSIBLE);
        two.belong(1, NONE);
        Check.due("one of them does not", two.make(0), 1);

        Check.sentence("Promise 9", "FULL if there are 8.");
        Compare.unchanged(Before.FULL, "make(8)", FULL, y -> y.make(8));
        Compare.unchanged(Before.FULL, "make(19)", FULL, y -> y.make(19));
        Check.due("if there are 7", Boards.themes(9, 7).make(7), 7);
    }

    // ---- Promise 10: merge

    private static void promise10() {
        Check.sentence("Promise 10", "Merges two themes; the second one goes. This is an act.");
        Compare.recorded(Before.SOME, "merge(0, 1)", 4, x -> x.merge(0, 1));
        Compare.recorded(Before.FULL, "merge(7, 0)", 2, x -> x.merge(7, 0));
        NoteThemes merged = Before.FULL.make();
        merged.merge(7, 0);
        Check.due("themes", merged.count(2), 7);
        Check.due("the first one has moved up", merged.theme(6, 0), 2);

        Check.sentence("Promise 10", "`first`: a theme");
        Compare.unchanged(Before.SOME, "merge(-1, 0)", UNKNOWN, x -> x.merge(-1, 0));
        Compare.unchanged(Before.SOME, "merge(2, 0)", UNKNOWN, x -> x.merge(Before.SOME_THEMES, 0));
        Compare.unchanged(Before.SOME, "merge(NONE, 0)", UNKNOWN, x -> x.merge(NONE, 0));
        Check.due("merge(LEAST, 0)", Boards.themes(2, 2).merge(LEAST, 0), UNKNOWN);
        Check.due("merge(MOST, 0)", Boards.themes(2, 2).merge(MOST, 0), UNKNOWN);

        Check.sentence("Promise 10", "`second`: a theme");
        Compare.unchanged(Before.SOME, "merge(0, -1)", UNKNOWN, x -> x.merge(0, -1));
        Compare.unchanged(Before.SOME, "merge(0, 2)", UNKNOWN, x -> x.merge(0, Before.SOME_THEMES));
        Compare.unchanged(Before.SOME, "merge(0, NONE)", UNKNOWN, x -> x.merge(0, NONE));
        Check.due("merge(0, LEAST)", Boards.themes(2, 2).merge(0, LEAST), UNKNOWN);
        Check.due("merge(0, MOST)", Boards.themes(2, 2).merge(0, MOST), UNKNOWN);

        Check.sentence("Promise 10", "Returns how many notes the first one has then;");
        NoteThemes x = Boards.themes(20, 8);
        for (int note = 8; note < 20; note++) {
            x.belong(note, 3);
        }
        int[][] merges = {{3, 7}, {3, 6}, {3, 4}, {3, 0}, {2, 0}, {1, 0}, {0, 1}};
        for (int i = 0; i < merges.length; i++) {
            Check.due("merge", x.merge(merges[i][0], merges[i][1]), 14 + i);
        }
        Check.due("all are one", x.count(2), 1);

        Check.sentence("Promise 10", "UNKNOWN;");
        Compare.unchanged(Before.EMPTY, "merge(0, 0)", UNKNOWN, y -> y.merge(0, 0));
        Compare.unchanged(Before.SOME, "merge(2, 2)", UNKNOWN, y -> y.merge(Before.SOME_THEMES, Before.SOME_THEMES));
        Compare.unchanged(Before.FULL, "merge(8, 8)", UNKNOWN, y -> y.merge(8, 8));
        Compare.unchanged(Before.FULL, "merge(-1, -1)", UNKNOWN, y -> y.merge(-1, -1));

        Check.sentence("Promise 10", "BAD_VALUE if both are the same.");
        Compare.unchanged(Before.SOME, "merge(0, 0)", BAD_VALUE, y -> y.merge(0, 0));
        Compare.unchanged(Before.FULL, "merge(7, 7)", BAD_VALUE, y -> y.merge(7, 7));
        Check.due("the only theme", Boards.themes(1, 1).merge(0, 0), BAD_VALUE);
    }

    // ---- Promise 11: belong

    private static void promise11() {
        Check.sentence("Promise 11", "Lets a note belong to a theme, or to none. This is an act.");
        Compare.recorded(Before.SOME, "belong(4, 1)", 2, x -> x.belong(4, 1));
        Compare.recorded(Before.SOME, "belong(0, NONE)", 2, x -> x.belong(0, NONE));
        Compare.recorded(Before.FULL, "belong(0, 7)", 7, x -> x.belong(0, 7));
        NoteThemes last = Boards.themes(1, 1);
        Check.due("the last theme goes", last.belong(0, NONE), 0);
        Check.due("that is no error, so it is recorded", last.count(11), 3);

        Check.sentence("Promise 11", "`note`: a note");
        Compare.unchanged(Before.SOME, "belong(-1, 0)", UNKNOWN, x -> x.belong(-1, 0));
        Compare.unchanged(Before.SOME, "belong(5, 0)", UNKNOWN, x -> x.belong(Before.SOME_NOTES, 0));
        Check.due("belong(19, 7)", Before.FULL.make().belong(19, 7), 8);
        Check.due("belong(20, 7)", Before.FULL.make().belong(20, 7), UNKNOWN);
        Check.due("belong(LEAST, 0)", Boards.themes(1, 1).belong(LEAST, 0), UNKNOWN);
        Check.due("belong(MOST, 0)", Boards.themes(1, 1).belong(MOST, 0), UNKNOWN);

        Check.sentence("Promise 11", "`theme`: a theme, or NONE");
        for (int theme : new int[] {-1, -2, -3, -4, -6, Before.SOME_THEMES}) {
            Compare.unchanged(Before.SOME, "belong(4, " + theme + ")", UNKNOWN, x -> x.belong(4, theme));
        }
        Check.due("belong(4, LEAST)", Before.SOME.make().belong(4, LEAST), UNKNOWN);
        Check.due("belong(4, MOST)", Before.SOME.make().belong(4, MOST), UNKNOWN);
        Check.due("the first theme", Before.SOME.make().belong(4, 0), 2);
        Check.due("the last theme", Before.SOME.make().belong(4, 1), 2);
        Check.due("NONE", Before.SOME.make().belong(2, NONE), 2);

        Check.sentence("Promise 11", "Returns how many themes there are then (one without notes goes);");
        NoteThemes x = Boards.themes(8, 8);
        for (int note = 0; note < 8; note++) {
            Check.due("belong(" + note + ", NONE)", x.belong(note, NONE), 7 - note);
        }
        NoteThemes y = Boards.themes(8, 8);
        for (int note = 0; note < 7; note++) {
            Check.due("belong to the last one", y.belong(note, y.count(2) - 1), 7 - note);
        }
        Check.due("it has all notes", y.theme(0, 0), 8);

        Check.sentence("Promise 11", "UNKNOWN (note or theme);");
        Compare.unchanged(Before.EMPTY, "belong(0, NONE)", UNKNOWN, z -> z.belong(0, NONE));
        Compare.unchanged(Before.SOME, "belong(5, NONE)", UNKNOWN, z -> z.belong(Before.SOME_NOTES, NONE));
        Compare.unchanged(Before.SOME, "belong(5, 2)", UNKNOWN, z -> z.belong(Before.SOME_NOTES, 2));
        Compare.unchanged(Before.FULL, "belong(19, 8)", UNKNOWN, z -> z.belong(19, 8));

        Check.sentence("Promise 11", "NONE if it is so already.");
        Compare.unchanged(Before.SOME, "belong(0, 0)", NONE, z -> z.belong(0, 0));
        Compare.unchanged(Before.SOME, "belong(4, NONE)", NONE, z -> z.belong(4, NONE));
        Compare.unchanged(Before.FULL, "belong(7, 7)", NONE, z -> z.belong(7, 7));
    }

    // ---- Promise 12: vote

    private static void promise12() {
        Check.sentence("Promise 12",
            "A person votes for a name of a theme, in place of the vote before. This is an act.");
        Compare.recorded(Before.SOME, "vote(0, 0, 5)", NO_NAME, x -> x.vote(0, 0, 5));
        Compare.recorded(Before.SOME, "vote(0, 0, NONE)", NO_NAME, x -> x.vote(0, 0, NONE));
        Compare.recorded(Before.FULL, "vote(5, 0, 4)", 4, x -> x.vote(5, 0, 4));
        NoteThemes instead = Before.SOME.make();
        instead.vote(0, 0, 5);
        Check.due("the vote before", instead.votes(0, 4), 1);
        Check.due("the vote now", instead.votes(0, 5), 1);

        Check.sentence("Promise 12", "`person`: 0 to 5");
        Compare.unchanged(Before.SOME, "vote(-1, 0, 5)", UNKNOWN, x -> x.vote(-1, 0, 5));
        Compare.unchanged(Before.SOME, "vote(6, 0, 5)", UNKNOWN, x -> x.vote(6, 0, 5));
        Check.due("vote(0, 0, 5)", Boards.themes(1, 1).vote(0, 0, 5), NO_NAME);
        Check.due("vote(5, 0, 5)", Boards.themes(1, 1).vote(5, 0, 5), NO_NAME);
        Check.due("vote(LEAST, 0, 5)", Boards.themes(1, 1).vote(LEAST, 0, 5), UNKNOWN);
        Check.due("vote(MOST, 0, 5)", Boards.themes(1, 1).vote(MOST, 0, 5), UNKNOWN);

        Check.sentence("Promise 12", "`theme`: a theme");
        Compare.unchanged(Before.SOME, "vote(0, -1, 5)", UNKNOWN, x -> x.vote(0, -1, 5));
        Compare.unchanged(Before.SOME, "vote(0, 2, 5)", UNKNOWN, x -> x.vote(0, Before.SOME_THEMES, 5));
        Compare.unchanged(Before.SOME, "vote(0, NONE, 5)", UNKNOWN, x -> x.vote(0, NONE, 5));
        Check.due("vote(0, 7, 5)", Before.FULL.make().vote(0, 7, 5), NO_NAME);
        Check.due("vote(0, 8, 5)", Before.FULL.make().vote(0, 8, 5), UNKNOWN);
        Check.due("vote(0, LEAST, 5)", Boards.themes(1, 1).vote(0, LEAST, 5), UNKNOWN);
        Check.due("vote(0, MOST, 5)", Boards.themes(1, 1).vote(0, MOST, 5), UNKNOWN);

        Check.sentence("Promise 12", "`name`: 0 to 9, or NONE: no name");
        for (int name : new int[] {-1, -2, -3, -4, -6, 10}) {
            Compare.unchanged(Before.SOME, "vote(0, 0, " + name + ")", BAD_VALUE, x -> x.vote(0, 0, name));
        }
        Check.due("vote(0, 0, LEAST)", Boards.themes(1, 1).vote(0, 0, LEAST), BAD_VALUE);
        Check.due("vote(0, 0, MOST)", Boards.themes(1, 1).vote(0, 0, MOST), BAD_VALUE);
        Check.due("vote(0, 0, 0)", Boards.themes(1, 1).vote(0, 0, 0), NO_NAME);
        Check.due("vote(0, 0, 9)", Boards.themes(1, 1).vote(0, 0, 9), NO_NAME);
        Check.due("vote(0, 0, NONE)", Before.SOME.make().vote(0, 0, NONE), NO_NAME);
        voteAnswers();
    }

    private static void voteAnswers() {
        Check.sentence("Promise 12", "Returns the name that the theme has then, 10 for none;");
        for (int name = 0; name <= 9; name++) {
            NoteThemes x = Boards.themes(2, 2);
            Check.due("one vote for " + name, x.vote(0, 1, name), NO_NAME);
            Check.due("two votes for " + name, x.vote(1, 1, name), name);
            Check.due("another vote", x.vote(2, 1, (name + 1) % 10), name);
            Check.due("one vote again", x.vote(1, 1, NONE), NO_NAME);
        }
        NoteThemes zero = Boards.themes(1, 1);
        zero.vote(0, 0, 0);
        Check.due("0 is a name", zero.vote(1, 0, 0), 0);
        Check.due("that is recorded", zero.count(11), 4);

        Check.sentence("Promise 12", "UNKNOWN (person or theme);");
        Compare.unchanged(Before.EMPTY, "vote(0, 0, NONE)", UNKNOWN, x -> x.vote(0, 0, NONE));
        Compare.unchanged(Before.SOME, "vote(6, 0, 10)", UNKNOWN, x -> x.vote(6, 0, 10));
        Compare.unchanged(Before.SOME, "vote(0, 2, 10)", UNKNOWN, x -> x.vote(0, Before.SOME_THEMES, 10));
        Compare.unchanged(Before.SOME, "vote(0, 2, NONE)", UNKNOWN, x -> x.vote(0, Before.SOME_THEMES, NONE));
        Compare.unchanged(Before.FULL, "vote(6, 8, NONE)", UNKNOWN, x -> x.vote(6, 8, NONE));

        Check.sentence("Promise 12", "BAD_VALUE;");
        Compare.unchanged(Before.FULL, "vote(0, 0, 10)", BAD_VALUE, x -> x.vote(0, 0, 10));
        Compare.unchanged(Before.FULL, "vote(0, 0, -1)", BAD_VALUE, x -> x.vote(0, 0, -1));

        Check.sentence("Promise 12", "NONE if it is so already.");
        Compare.unchanged(Before.SOME, "vote(0, 0, 4)", NONE, x -> x.vote(0, 0, 4));
        Compare.unchanged(Before.SOME, "vote(5, 0, NONE)", NONE, x -> x.vote(5, 0, NONE));
        Compare.unchanged(Before.FULL, "vote(2, 7, 4)", NONE, x -> x.vote(2, 7, 4));
        Compare.unchanged(Before.FULL, "vote(0, 7, NONE)", NONE, x -> x.vote(0, 7, NONE));
    }

    // ---- Promise 13: set

    private static void promise13() {
        Check.sentence("Promise 13", "Sets a setting: 0 the reach (0 to 20), 1 the dots of each (1 to 9), 2 the most of one"
            + " person on a note (1 to 9). This is an act.");
        Compare.recorded(Before.SOME, "set(0, 20)", 3, x -> x.set(0, 20));
        Compare.recorded(Before.SOME, "set(1, 1)", 4, x -> x.set(1, 1));
        Compare.recorded(Before.FULL, "set(2, 9)", 2, x -> x.set(2, 9));
        Check.due("set(0, 0)", new NoteThemes().set(0, 0), 3);
        Check.due("set(1, 9)", new NoteThemes().set(1, 9), 4);
        Check.due("set(2, 1)", new NoteThemes().set(2, 1), 2);

        Check.sentence("Promise 13", "`which`: 0 to 2");
        Compare.unchanged(Before.SOME, "set(-1, 1)", UNKNOWN, x -> x.set(-1, 1));
        Compare.unchanged(Before.SOME, "set(3, 1)", UNKNOWN, x -> x.set(3, 1));
        Check.due("set(LEAST, 1)", new NoteThemes().set(LEAST, 1), UNKNOWN);
        Check.due("set(MOST, 1)", new NoteThemes().set(MOST, 1), UNKNOWN);

        Check.sentence("Promise 13", "`value`: in its range");
        Compare.unchanged(Before.SOME, "set(0, -1)", BAD_VALUE, x -> x.set(0, -1));
        Compare.unchanged(Before.SOME, "set(0, 21)", BAD_VALUE, x -> x.set(0, 21));
        Compare.unchanged(Before.SOME, "set(1, 0)", BAD_VALUE, x -> x.set(1, 0));
        Compare.unchanged(Before.SOME, "set(1, 10)", BAD_VALUE, x -> x.set(1, 10));
        Compare.unchanged(Before.SOME, "set(2, 0)", BAD_VALUE, x -> x.set(2, 0));
        Compare.unchanged(Before.SOME, "set(2, 10)", BAD_VALUE, x -> x.set(2, 10));
        for (int which = 0; which < 3; which++) {
            Check.due("set to LEAST", new NoteThemes().set(which, LEAST), BAD_VALUE);
            Check.due("set to MOST", new NoteThemes().set(which, MOST), BAD_VALUE);
            Check.due("set to NONE", new NoteThemes().set(which, NONE), BAD_VALUE);
        }
        setAnswers();
    }

    private static void setAnswers() {
        Check.sentence("Promise 13", "Returns the previous one;");
        int[][] ranges = {{0, 20, 3}, {1, 9, 4}, {1, 9, 2}};
        for (int which = 0; which < 3; which++) {
            NoteThemes x = new NoteThemes();
            int before = ranges[which][2];
            for (int value = ranges[which][0]; value <= ranges[which][1]; value++) {
                Check.due("set(" + which + ", " + value + ")", x.set(which, value), value == before ? NONE : before);
                Check.due("the setting", x.count(8 + which), value);
                before = value;
            }
        }
        NoteThemes zero = new NoteThemes();
        zero.set(0, 0);
        Check.due("0 is a value", zero.set(0, 1), 0);
        Check.due("that is recorded", zero.count(11), 2);

        Check.sentence("Promise 13", "UNKNOWN; BAD_VALUE;");
        Compare.unchanged(Before.EMPTY, "set(3, 21)", UNKNOWN, x -> x.set(3, 21));
        Compare.unchanged(Before.FULL, "set(-1, -1)", UNKNOWN, x -> x.set(-1, -1));
        Compare.unchanged(Before.EMPTY, "set(0, 21)", BAD_VALUE, x -> x.set(0, 21));
        Compare.unchanged(Before.FULL, "set(2, 10)", BAD_VALUE, x -> x.set(2, 10));

        Check.sentence("Promise 13", "NONE if it is so already.");
        Compare.unchanged(Before.EMPTY, "set(0, 3)", NONE, x -> x.set(0, 3));
        Compare.unchanged(Before.SOME, "set(1, 4)", NONE, x -> x.set(1, 4));
        Compare.unchanged(Before.FULL, "set(2, 2)", NONE, x -> x.set(2, 2));
    }
}

/** The bounds of dots, sentence by sentence: the term DOTS, and the promises 7, 8 and 20. */
public final class DotsBoundsTest {
    private static final int UNKNOWN = -1;
    private static final int BAD_VALUE = -2;
    private static final int FULL = -3;
    private static final int NOT_POSSIBLE = -4;
    private static final int NONE = -5;
    private static final int LEAST = Integer.MIN_VALUE;
    private static final int MOST = Integer.MAX_VALUE;

    public static void main(String[] args) {
        terms();
        promise7();
        promise8();
        promise20();
        Check.end();
    }

    // ---- DOTS

    private static void terms() {
        sixPeople();
        dotsOfEach();
        dotsOnANote();
        dotsThatComeBack();
        dotsThatStay();
    }

    private static void sixPeople() {
        Check.sentence("DOTS", "There are 6 people, 0 to 5.");
        int[] nobody = {-1, 6, LEAST, MOST, NONE};
        NoteThemes x = Boards.at(0, 0);
        x.make(0);
        for (int person = 0; person < 6; person++) {
            Check.due("stick", x.stick(person, 0), person + 1);
            Check.due("dots", x.dots(person, 0), 1);
            Check.due("vote", x.vote(person, 0, person), 10);
        }
        for (int person = 0; person < 6; person++) {
            Check.due("unstick", x.unstick(person, 0), 5 - person);
        }
        for (int person : nobody) {
            Check.due("stick of " + person, x.stick(person, 0), UNKNOWN);
            Check.due("unstick of " + person, x.unstick(person, 0), UNKNOWN);
            Check.due("dots of " + person, x.dots(person, 0), UNKNOWN);
            Check.due("vote of " + person, x.vote(person, 0, 1), UNKNOWN);
        }
    }

    private static void dotsOfEach() {
        Check.sentence("DOTS", "Each has as many dots as the setting 1 tells (1 to 9; 4 at first)");
        Check.due("at first", new NoteThemes().count(9), 4);
        Check.due("at first, of all people", new NoteThemes().count(4), 24);
        Check.due("set(1, 0)", new NoteThemes().set(1, 0), BAD_VALUE);
        Check.due("set(1, 10)", new NoteThemes().set(1, 10), BAD_VALUE);
        for (int dots = 1; dots <= 9; dots++) {
            NoteThemes x = Boards.alone(10);
            x.set(1, dots);
            for (int i = 0; i < dots; i++) {
                Check.due("left with " + dots, x.count(4), 6 * dots - i);
                Check.due("stick with " + dots, x.stick(5, i), 1);
            }
            Check.due("one more than " + dots, x.stick(5, dots), FULL);
            Check.due("left", x.count(4), 5 * dots);
            Check.due("another person has its own", x.stick(4, dots), 1);
        }
    }

    private static void dotsOnANote() {
        Check.sentence("DOTS",
            "and can stick them on notes, at most as many on one note as the setting 2 tells (1 to 9; 2 at first).");
        Check.due("at first", new NoteThemes().count(10), 2);
        Check.due("set(2, 0)", new NoteThemes().set(2, 0), BAD_VALUE);
        Check.due("set(2, 10)", new NoteThemes().set(2, 10), BAD_VALUE);
        for (int most = 1; most <= 8; most++) {
            NoteThemes x = Boards.at(0, 0, 0, 0);
            x.set(1, 9);
            x.set(2, most);
            for (int i = 1; i <= most; i++) {
                Check.due("stick with " + most, x.stick(0, 0), i);
            }
            Check.due("one more than " + most, x.stick(0, 0), NOT_POSSIBLE);
            Check.due("on another note", x.stick(0, 1), 1);
            Check.due("of another person", x.stick(1, 0), most + 1);
        }
        NoteThemes nine = Boards.at(0, 0);
        nine.set(1, 9);
        nine.set(2, 9);
        for (int i = 1; i <= 9; i++) {
            Check.due("stick with 9", nine.stick(0, 0), i);
        }
        Check.due("a tenth: no dot is left", nine.stick(0, 0), FULL);
    }

    private static void dotsThatComeBack() {
        Check.sentence("DOTS", "The dots of a note that is taken off come back.");
        NoteThemes x = Boards.at(0, 0, 10, 0, 20, 0);
        x.stick(0, 0);
        x.stick(0, 0);
        x.stick(0, 1);
        x.stick(0, 1);
        x.stick(3, 0);
        Check.due("no dot is left", x.stick(0, 2), FULL);
        Check.due("takeOff(0)", x.takeOff(0), 3);
        Check.due("stuck", x.count(3), 2);
        Check.due("left", x.count(4), 22);
        Check.due("a dot again", x.stick(0, 1), 1);
        Check.due("and the last one", x.stick(0, 1), 2);
        Check.due("no more", x.stick(0, 0), FULL);
    }

    private static void dotsThatStay() {
        Check.sentence("DOTS", "When a setting is made less, dots that are stuck stay.");
        NoteThemes x = Boards.at(0, 0, 10, 0);
        x.set(1, 9);
        x.set(2, 9);
        for (int i = 0; i < 9; i++) {
            x.stick(2, 0);
        }
        x.set(1, 1);
        Check.due("behind set(1, 1)", x.dots(2, 0), 9);
        x.set(2, 1);
        Check.due("behind set(2, 1)", x.dots(2, 0), 9);
        Check.due("stuck", x.count(3), 9);
        Check.due("left of the others", x.count(4), 5);
        for (int i = 8; i >= 1; i--) {
            Check.due("unstick", x.unstick(2, 0), i);
            Check.due("still none is left of that person", x.count(4), 5);
            Check.due("so it has none for another note", x.stick(2, 1), FULL);
        }
        Check.due("the last one", x.unstick(2, 0), 0);
        Check.due("now one is left", x.count(4), 6);
        Check.due("for another note", x.stick(2, 1), 1);
    }

    // ---- Promise 7: stick

    private static void promise7() {
        Check.sentence("Promise 7", "A person sticks a dot on a note. This is an act.");
        Compare.recorded(Before.SOME, "stick(5, 0)", 2, x -> x.stick(5, 0));
        Compare.recorded(Before.FULL, "stick(2, 19)", 1, x -> x.stick(2, 19));

        Check.sentence("Promise 7", "`person`: 0 to 5");
        Compare.unchanged(Before.SOME, "stick(-1, 0)", UNKNOWN, x -> x.stick(-1, 0));
        Compare.unchanged(Before.SOME, "stick(6, 0)", UNKNOWN, x -> x.stick(6, 0));
        Check.due("stick(0, 0)", Boards.at(0, 0).stick(0, 0), 1);
        Check.due("stick(5, 0)", Boards.at(0, 0).stick(5, 0), 1);
        Check.due("stick(LEAST, 0)", Boards.at(0, 0).stick(LEAST, 0), UNKNOWN);
        Check.due("stick(MOST, 0)", Boards.at(0, 0).stick(MOST, 0), UNKNOWN);

        Check.sentence("Promise 7", "`note`: a note");
        Compare.unchanged(Before.SOME, "stick(1, -1)", UNKNOWN, x -> x.stick(1, -1));
        Compare.unchanged(Before.SOME, "stick(1, 5)", UNKNOWN, x -> x.stick(1, Before.SOME_NOTES));
        Compare.unchanged(Before.FULL, "stick(2, 20)", UNKNOWN, x -> x.stick(2, 20));
        Check.due("stick(0, LEAST)", Boards.at(0, 0).stick(0, LEAST), UNKNOWN);
        Check.due("stick(0, MOST)", Boards.at(0, 0).stick(0, MOST), UNKNOWN);

        Check.sentence("Promise 7", "Returns how many dots the note has then;");
        NoteThemes x = Boards.at(0, 0, 0, 0);
        x.set(1, 9);
        x.set(2, 9);
        for (int i = 1; i <= 54; i++) {
            Check.due("stick", x.stick(i % 6, 1), i);
        }
        stickRefused();
    }

    private static void stickRefused() {
        Check.sentence("Promise 7", "UNKNOWN (person or note);");
        Compare.unchanged(Before.EMPTY, "stick(0, 0)", UNKNOWN, x -> x.stick(0, 0));
        Compare.unchanged(Before.SOME, "stick(6, 5)", UNKNOWN, x -> x.stick(6, Before.SOME_NOTES));
        Compare.unchanged(Before.FULL, "stick(0, 20) ahead of FULL", UNKNOWN, x -> x.stick(0, 20));
        Compare.unchanged(Before.FULL, "stick(6, 0) ahead of FULL", UNKNOWN, x -> x.stick(6, 0));

        Check.sentence("Promise 7", "FULL if no dot is left;");
        Compare.unchanged(Before.FULL, "stick(0, 19)", FULL, x -> x.stick(0, 19));
        Compare.unchanged(Before.FULL, "stick(0, 0) ahead of NOT_POSSIBLE", FULL, x -> x.stick(0, 0));
        NoteThemes less = Before.SOME.make();
        less.set(1, 1);
        Check.due("more are stuck than it has now", less.stick(0, 4), FULL);
        less.set(1, 3);
        Check.due("just as many are stuck as it has", less.stick(0, 4), FULL);
        less.set(1, 4);
        Check.due("one is left", less.stick(0, 4), 1);

        Check.sentence("Promise 7",
            "NOT_POSSIBLE if there are as many of this person on it as the setting 2 tells, or more.");
        Compare.unchanged(Before.SOME, "stick(0, 1)", NOT_POSSIBLE, x -> x.stick(0, 1));
        Compare.unchanged(Before.FULL, "stick(1, 0)", NOT_POSSIBLE, x -> x.stick(1, 0));
        NoteThemes more = Before.SOME.make();
        more.set(2, 1);
        Check.due("more are on it than the setting tells", more.stick(0, 1), NOT_POSSIBLE);
        Check.due("just as many", more.stick(5, 0), NOT_POSSIBLE);
        Check.due("of another person", more.stick(5, 1), 3);
        Check.due("on another note", more.stick(5, 2), 1);
        more.set(2, 2);
        Check.due("room for one", more.stick(5, 0), 2);
    }

    // ---- Promise 8: unstick

    private static void promise8() {
        Check.sentence("Promise 8", "A person takes a dot off a note. This is an act.");
        Compare.recorded(Before.SOME, "unstick(0, 1)", 1, x -> x.unstick(0, 1));
        Compare.recorded(Before.FULL, "unstick(1, 0)", 3, x -> x.unstick(1, 0));
        NoteThemes again = Before.FULL.make();
        again.unstick(0, 0);
        Check.due("a dot that is taken off can be stuck again", again.stick(0, 19), 1);

        Check.sentence("Promise 8", "`person`: 0 to 5");
        Compare.unchanged(Before.SOME, "unstick(-1, 1)", UNKNOWN, x -> x.unstick(-1, 1));
        Compare.unchanged(Before.SOME, "unstick(6, 1)", UNKNOWN, x -> x.unstick(6, 1));
        Check.due("unstick(LEAST, 0)", Boards.at(0, 0).unstick(LEAST, 0), UNKNOWN);
        Check.due("unstick(MOST, 0)", Boards.at(0, 0).unstick(MOST, 0), UNKNOWN);
        Check.due("the person 0", Before.SOME.make().unstick(0, 3), 0);
        Check.due("the person 5", Before.SOME.make().unstick(5, 0), 0);

        Check.sentence("Promise 8", "`note`: a note");
        Compare.unchanged(Before.SOME, "unstick(0, -1)", UNKNOWN, x -> x.unstick(0, -1));
        Compare.unchanged(Before.SOME, "unstick(0, 5)", UNKNOWN, x -> x.unstick(0, Before.SOME_NOTES));
        Compare.unchanged(Before.FULL, "unstick(0, 20)", UNKNOWN, x -> x.unstick(0, 20));
        Check.due("unstick(0, LEAST)", Boards.at(0, 0).unstick(0, LEAST), UNKNOWN);
        Check.due("unstick(0, MOST)", Boards.at(0, 0).unstick(0, MOST), UNKNOWN);

        Check.sentence("Promise 8", "Returns how many dots the note has then;");
        NoteThemes many = Boards.at(0, 0);
        many.set(1, 9);
        many.set(2, 9);
        for (int i = 0; i < 54; i++) {
            many.stick(i % 6, 0);
        }
        for (int i = 53; i >= 0; i--) {
            Check.due("unstick", many.unstick(i % 6, 0), i);
        }

        Check.sentence("Promise 8", "UNKNOWN (person or note);");
        Compare.unchanged(Before.EMPTY, "unstick(0, 0)", UNKNOWN, x -> x.unstick(0, 0));
        Compare.unchanged(Before.SOME, "unstick(6, 5)", UNKNOWN, x -> x.unstick(6, Before.SOME_NOTES));

        Check.sentence("Promise 8", "NOT_POSSIBLE if there is none of this person.");
        Compare.unchanged(Before.SOME, "unstick(5, 1)", NOT_POSSIBLE, x -> x.unstick(5, 1));
        Compare.unchanged(Before.SOME, "unstick(1, 1)", NOT_POSSIBLE, x -> x.unstick(1, 1));
        Compare.unchanged(Before.FULL, "unstick(0, 19)", NOT_POSSIBLE, x -> x.unstick(0, 19));
        NoteThemes emptied = Before.SOME.make();
        emptied.unstick(0, 1);
        emptied.unstick(0, 1);
        Check.due("all are off already", emptied.unstick(0, 1), NOT_POSSIBLE);
    }

    // ---- Promise 20: dots

    private static void promise20() {
        Check.sentence("Promise 20", "Tells how many dots of a person are on a note.");
        int[][] due = {{0, 0, 0, 0, 0, 1}, {2, 0, 0, 0, 0, 0}, {0, 0, 0, 0, 0, 0}, {1, 0, 0, 0, 0, 0}, {0, 0, 0, 0, 0, 0}};
        for (int note = 0; note < Before.SOME_NOTES; note++) {
            for (int person = 0; person < 6; person++) {
                Check.due("dots(" + person + ", " + note + ")", Before.SOME.make().dots(person, note), due[note][person]);
            }
        }
        Compare.unchanged(Before.SOME, "dots(0, 1)", 2, x -> x.dots(0, 1));

        Check.sentence("Promise 20", "`person`: 0 to 5");
        Compare.unchanged(Before.SOME, "dots(-1, 1)", UNKNOWN, x -> x.dots(-1, 1));
        Compare.unchanged(Before.SOME, "dots(6, 1)", UNKNOWN, x -> x.dots(6, 1));
        Check.due("dots(LEAST, 0)", Boards.at(0, 0).dots(LEAST, 0), UNKNOWN);
        Check.due("dots(MOST, 0)", Boards.at(0, 0).dots(MOST, 0), UNKNOWN);
        Check.due("dots(0, 0)", Boards.at(0, 0).dots(0, 0), 0);
        Check.due("dots(5, 0)", Boards.at(0, 0).dots(5, 0), 0);

        Check.sentence("Promise 20", "`note`: a note");
        Compare.unchanged(Before.SOME, "dots(0, -1)", UNKNOWN, x -> x.dots(0, -1));
        Compare.unchanged(Before.SOME, "dots(0, 5)", UNKNOWN, x -> x.dots(0, Before.SOME_NOTES));
        Check.due("dots(5, 19)", Before.FULL.make().dots(5, 19), 0);
        Check.due("dots(5, 20)", Before.FULL.make().dots(5, 20), UNKNOWN);
        Check.due("dots(0, LEAST)", Boards.at(0, 0).dots(0, LEAST), UNKNOWN);
        Check.due("dots(0, MOST)", Boards.at(0, 0).dots(0, MOST), UNKNOWN);

        Check.sentence("Promise 20", "Returns how many; UNKNOWN.");
        NoteThemes nine = Boards.at(0, 0);
        nine.set(1, 9);
        nine.set(2, 9);
        for (int i = 1; i <= 9; i++) {
            nine.stick(5, 0);
            Check.due("dots(5, 0)", nine.dots(5, 0), i);
        }
        Check.due("dots(4, 0)", nine.dots(4, 0), 0);
        Compare.unchanged(Before.EMPTY, "dots(0, 0)", UNKNOWN, x -> x.dots(0, 0));
        Compare.unchanged(Before.SOME, "dots(6, 5)", UNKNOWN, x -> x.dots(6, Before.SOME_NOTES));
    }
}

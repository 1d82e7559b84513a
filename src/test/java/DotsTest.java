/** Promises 7, 8 and 20: dots that people stick, and take off again. */
public final class DotsTest {
    private static final int UNKNOWN = -1;
    private static final int FULL = -3;
    private static final int NOT_POSSIBLE = -4;

    public static void main(String[] args) {
        promise7Stick();
        promise7StickMeetsItsBounds();
        promise8Unstick();
        promise20Dots();
        actsAreRecordedAndErrorsChangeNothing();
        Check.end();
    }

    private static void promise7Stick() {
        Check.about("promise 7");
        NoteThemes x = Boards.at(0, 0, 10, 0, 20, 0);
        Check.due("stick(0, 0)", x.stick(0, 0), 1);
        Check.due("stick(5, 0)", x.stick(5, 0), 2);
        Check.due("stick(0, 0)", x.stick(0, 0), 3);
        Check.due("a third of one person on a note", x.stick(0, 0), NOT_POSSIBLE);
        Check.due("stick(0, 1)", x.stick(0, 1), 1);
        Check.due("stick(0, 1)", x.stick(0, 1), 2);
        Check.due("a fifth of one person", x.stick(0, 2), FULL);
        Check.due("a fifth, and a third on a note", x.stick(0, 0), FULL);
        Check.due("stick(1, 2)", x.stick(1, 2), 1);
    }

    private static void promise7StickMeetsItsBounds() {
        Check.about("promise 7");
        NoteThemes x = Boards.at(0, 0, 10, 0);
        Check.due("stick(-1, 0)", x.stick(-1, 0), UNKNOWN);
        Check.due("stick(6, 0)", x.stick(6, 0), UNKNOWN);
        Check.due("stick(0, -1)", x.stick(0, -1), UNKNOWN);
        Check.due("stick(0, 2)", x.stick(0, 2), UNKNOWN);
        x.set(1, 9);
        x.set(2, 9);
        for (int i = 1; i <= 9; i++) {
            Check.due("stick(3, 0)", x.stick(3, 0), i);
        }
        Check.due("a tenth", x.stick(3, 0), FULL);
        x.set(2, 1);
        x.unstick(3, 0);
        Check.due("more than the setting 2 on it", x.stick(3, 0), NOT_POSSIBLE);
        x.set(1, 1);
        Check.due("more than the setting 1 stuck", x.stick(3, 1), FULL);
        Check.due("dots that are stuck stay", x.note(0, 2), 8);
        Check.due("stick(4, 0)", x.stick(4, 0), 9);
        Check.due("stick(4, 0) again", x.stick(4, 0), FULL);
    }

    private static void promise8Unstick() {
        Check.about("promise 8");
        NoteThemes x = Boards.at(0, 0, 10, 0);
        x.stick(0, 0);
        x.stick(0, 0);
        x.stick(1, 0);
        Check.due("unstick(-1, 0)", x.unstick(-1, 0), UNKNOWN);
        Check.due("unstick(6, 0)", x.unstick(6, 0), UNKNOWN);
        Check.due("unstick(0, 2)", x.unstick(0, 2), UNKNOWN);
        Check.due("unstick(0, -1)", x.unstick(0, -1), UNKNOWN);
        Check.due("unstick(2, 0)", x.unstick(2, 0), NOT_POSSIBLE);
        Check.due("unstick(0, 1)", x.unstick(0, 1), NOT_POSSIBLE);
        Check.due("unstick(0, 0)", x.unstick(0, 0), 2);
        Check.due("unstick(0, 0)", x.unstick(0, 0), 1);
        Check.due("unstick(0, 0)", x.unstick(0, 0), NOT_POSSIBLE);
        Check.due("that of the other stays", x.dots(1, 0), 1);
        Check.due("the dot is there again", x.count(4), 23);
    }

    private static void promise20Dots() {
        Check.about("promise 20");
        NoteThemes x = Boards.at(0, 0, 10, 0);
        x.stick(0, 0);
        x.stick(5, 1);
        x.stick(5, 1);
        Check.due("dots(0, 0)", x.dots(0, 0), 1);
        Check.due("dots(5, 0)", x.dots(5, 0), 0);
        Check.due("dots(0, 1)", x.dots(0, 1), 0);
        Check.due("dots(5, 1)", x.dots(5, 1), 2);
        Check.due("dots(-1, 0)", x.dots(-1, 0), UNKNOWN);
        Check.due("dots(6, 0)", x.dots(6, 0), UNKNOWN);
        Check.due("dots(0, -1)", x.dots(0, -1), UNKNOWN);
        Check.due("dots(0, 2)", x.dots(0, 2), UNKNOWN);
    }

    private static void actsAreRecordedAndErrorsChangeNothing() {
        Check.about("promises 7 and 8");
        NoteThemes x = Boards.at(0, 0);
        x.stick(0, 0);
        Check.due("count(11) behind stick", x.count(11), 2);
        x.stick(0, 0);
        x.unstick(0, 0);
        Check.due("count(11) behind unstick", x.count(11), 4);
        x.undo();
        Check.due("undo of unstick", x.dots(0, 0), 2);
        x.undo();
        Check.due("undo of stick", x.dots(0, 0), 1);
        x.set(2, 1);
        String before = Boards.told(x);
        x.stick(0, 0);
        x.stick(6, 0);
        x.unstick(1, 0);
        x.unstick(0, 1);
        Check.holds("errors change nothing", before.equals(Boards.told(x)));
    }
}

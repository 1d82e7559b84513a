/** Promises 3, 14 and 15: boards that are read from a text. */
public final class TextsTest {
    private static final int FULL = -3;
    private static final int NONE = -5;

    public static void main(String[] args) {
        promise3Load();
        promise3LoadMakesTheBoardAnew();
        promise3FaultsOfNumbers();
        promise3FaultsOfSigns();
        promise3FaultsOfDots();
        promise3LongTexts();
        promise14Type();
        promise15ClearText();
        actsAreRecordedAndErrorsChangeNothing();
        Check.end();
    }

    private static void loads(String text, int due) {
        Check.due("load() of \"" + text + "\"", Boards.loaded(text), due);
    }

    private static void faults(String text, int fault) {
        loads(text, -100 - fault);
    }

    private static void promise3Load() {
        Check.about("promise 3");
        NoteThemes x = new NoteThemes();
        Boards.typeAll(x, "29,19**;0,0;7,10*");
        Check.due("load()", x.load(), 3);
        int[][] due = {{29, 19, 2}, {0, 0, 0}, {7, 10, 1}};
        for (int note = 0; note < 3; note++) {
            for (int what = 0; what < 3; what++) {
                Check.due("note(" + note + ", " + what + ")", x.note(note, what), due[note][what]);
            }
            Check.due("its theme", x.note(note, 4), NONE);
        }
        Check.due("the dots are those of the person 0", x.dots(0, 0), 2);
        Check.due("the text stays", x.count(12), 17);
        Check.due("load() again", x.load(), 3);
        loads("0,0", 1);
        loads("10,9;19,10;20,19;29,0", 4);
        loads("9,9*;9,9*;9,9*;9,9*", 4);
    }

    private static void promise3LoadMakesTheBoardAnew() {
        Check.about("promise 3");
        NoteThemes x = Boards.at(0, 0, 1, 0, 20, 0);
        x.make(0);
        x.vote(1, 0, 4);
        x.stick(0, 0);
        x.stick(3, 1);
        x.set(0, 7);
        x.set(1, 5);
        x.set(2, 3);
        Boards.typeAll(x, "5,5***;6,6");
        Check.due("load()", x.load(), 2);
        Check.due("themes go", x.count(2), 0);
        Check.due("notes without a theme", x.count(5), 2);
        Check.due("dots", x.count(3), 3);
        Check.due("dots(3, 1)", x.dots(3, 1), 0);
        Check.due("dots(0, 0)", x.dots(0, 0), 3);
        Check.due("settings stay", x.count(8), 7);
        Check.due("settings stay", x.count(9), 5);
        Check.due("settings stay", x.count(10), 3);
        x.make(0);
        Check.due("a new theme has no votes", x.theme(0, 5), 0);
    }

    private static void promise3FaultsOfNumbers() {
        Check.about("promise 3");
        faults("30,0", 1);
        faults("3", 1);
        faults("300", 1);
        faults("00,0", 1);
        faults("05,0", 1);
        faults("290,0", 2);
        faults("0,20", 3);
        loads("0,2", 1);
        faults("0,00", 3);
        faults("0,05", 3);
        faults("0,190", 4);
        loads("0,19", 1);
        faults("a", 0);
        faults("1a", 1);
        faults("1,a", 2);
        faults("-1,0", 0);
        faults("1,-1", 2);
        faults(" 1,0", 0);
        faults("1 ,0", 1);
        faults("/,0", 0);
        faults(":,0", 0);
        faults("\u0661,0", 0);
        faults("\u0131,0", 0);
    }

    private static void promise3FaultsOfSigns() {
        Check.about("promise 3");
        faults("", 0);
        faults("1,", 2);
        faults("1,1;", 4);
        faults(",", 0);
        faults(";", 0);
        faults("*", 0);
        faults("1;", 1);
        faults("1*", 1);
        faults("1,,", 2);
        faults("1,;", 2);
        faults("1,*", 2);
        faults("1,1,", 3);
        faults("1,1;;", 4);
        faults("1,1;,", 4);
        faults("1,1;*", 4);
        faults("1,1*1", 4);
        faults("1,1*,", 4);
        faults("1,1*;", 5);
        faults("1,1 ", 3);
        faults("1,1*\n", 4);
        faults("1,1;2,2;30,1", 9);
        faults("1,1\u012a", 3);
    }

    private static void promise3FaultsOfDots() {
        Check.about("promise 3");
        faults("1,1***", 5);
        faults("1,1**;1,1**;1,1*", 15);
        faults("1,1*;1,1*;1,1*;1,1*;1,1*", 23);
        NoteThemes x = new NoteThemes();
        Boards.typeAll(x, "1,1***");
        x.set(2, 3);
        Check.due("load() with 3 on a note", x.load(), 1);
        x.set(1, 2);
        Check.due("load() with 2 in all", x.load(), -105);
        x.set(2, 1);
        Check.due("load() with 1 on a note", x.load(), -104);
        x.set(2, 9);
        x.set(1, 9);
        Boards.typeAll(x, "******");
        Check.due("load() with 9", x.load(), 1);
        x.type('*');
        Check.due("a tenth", x.load(), -112);
    }

    private static void promise3LongTexts() {
        Check.about("promise 3");
        StringBuilder text = new StringBuilder("9,9");
        for (int i = 1; i < 20; i++) {
            text.append(";9,9");
        }
        Check.due("20 notes in 79 characters", Boards.loaded(text.toString()), 20);
        Check.due("one more dot in 80", Boards.loaded(text + "*"), 20);
        faults(text + ";", 80);
        NoteThemes x = Boards.alone(20);
        Boards.typeAll(x, text.toString());
        Check.due("onto a full board", x.load(), 20);
        Check.due("count(1)", x.count(1), 1);
    }

    private static void promise14Type() {
        Check.about("promise 14");
        NoteThemes x = new NoteThemes();
        char[] signs = {'1', ',', 0, '\n', (char) 255, (char) 256, Character.MAX_VALUE};
        for (int i = 0; i < 80; i++) {
            Check.due("type", x.type(signs[i % signs.length]), i + 1);
        }
        Check.due("an 81st", x.type('1'), FULL);
        Check.due("count(12)", x.count(12), 80);
        Check.due("typing is no act", x.count(11), 0);
    }

    private static void promise15ClearText() {
        Check.about("promise 15");
        NoteThemes x = new NoteThemes();
        Check.due("clearText()", x.clearText(), 0);
        Boards.typeAll(x, "1,1");
        Check.due("clearText()", x.clearText(), 3);
        Check.due("clearText()", x.clearText(), 0);
        Check.due("count(12)", x.count(12), 0);
        Check.due("load()", x.load(), -100);
        Check.due("type", x.type('2'), 1);
        Check.due("load() of the new text alone", x.load(), -101);
        Check.due("clearing is no act", x.count(11), 0);
    }

    private static void actsAreRecordedAndErrorsChangeNothing() {
        Check.about("promise 3");
        NoteThemes x = Boards.at(0, 0, 1, 0);
        x.stick(0, 0);
        String before = Boards.state(x);
        Boards.typeAll(x, "2,2;3,3**;4");
        String told = Boards.told(x);
        Check.due("load()", x.load(), -111);
        Check.holds("a fault changes nothing", told.equals(Boards.told(x)));
        Boards.typeAll(x, ",4");
        x.load();
        Check.due("count(11) behind load", x.count(11), 4);
        Check.due("count(0)", x.count(0), 3);
        x.undo();
        Check.holds("undo of load", before.equals(Boards.state(x)));
        Check.due("the text is in no state", x.count(12), 13);
    }
}

/** The bounds of texts, sentence by sentence: the term TEXTS, and the promises 3, 14 and 15. */
public final class TextsBoundsTest {
    private static final int FULL = -3;
    private static final int NONE = -5;
    private static final int NO_FAULT = -1;
    private static final String DIGITS = "0123456789";
    private static final String ALL = DIGITS + ",;*";
    /** The shortest text of the most notes: 79 characters. */
    private static final String TWENTY = Boards.times(20, "9,9");

    public static void main(String[] args) {
        terms();
        promise3();
        promise14();
        promise15();
        Check.end();
    }

    private static void loads(String text, int notes) {
        Check.due("load() of \"" + text + "\"", Boards.loaded(text), notes);
    }

    private static void faults(String text, int fault) {
        Check.due("load() of \"" + text + "\"", Boards.loaded(text), -100 - fault);
    }

    // ---- TEXTS

    private static void terms() {
        eightyCharacters();
        notesWithSemicolons();
        columnCommaRow();
        zerosInFront();
        digitsTooMany();
        starsOfPerson0();
        starsOnANote();
        starsInAll();
        everySignAtEachPlace();
        textsThatEndTooEarly();
    }

    private static void eightyCharacters() {
        Check.sentence("TEXTS", "There is a text of at most 80 characters, empty at first.");
        NoteThemes x = new NoteThemes();
        Check.due("at first", x.count(12), 0);
        Check.due("at first there is nothing to clear", x.clearText(), 0);
        for (int i = 1; i <= 80; i++) {
            Check.due("type", x.type('7'), i);
            Check.due("its length", x.count(12), i);
        }
        Check.due("an 81st", x.type('7'), FULL);
        Check.due("its length", x.count(12), 80);
        Check.due("all of it is cleared", x.clearText(), 80);
        Check.due("room again", x.type('7'), 1);
    }

    private static void notesWithSemicolons() {
        Check.sentence("TEXTS", "A board is a text: one or more notes with \";\" between two,");
        faults("", 0);
        loads("1,1", 1);
        loads("1,1;1,1", 2);
        loads(TWENTY, 20);
        faults(";", 0);
        faults(";1,1", 0);
        faults("1,1;", 4);
        faults("1,1;;1,1", 4);
        faults("1,1,1,1", 3);
        faults("1,1 1,1", 3);
        faults("1,1*1,1", 4);
    }

    private static void columnCommaRow() {
        Check.sentence("TEXTS", "each a column, \",\" and a row");
        NoteThemes x = Boards.typed("29,19;0,0;29,0;0,19;10,9");
        int[][] places = {{29, 19}, {0, 0}, {29, 0}, {0, 19}, {10, 9}};
        Check.due("load()", x.load(), places.length);
        for (int note = 0; note < places.length; note++) {
            Check.due("the column of the note " + note, x.note(note, 0), places[note][0]);
            Check.due("the row of the note " + note, x.note(note, 1), places[note][1]);
        }
        faults(",1", 0);
        faults("1", 1);
        faults("1,", 2);
        faults("1;1", 1);
        faults("1*1", 1);
        faults("1,,1", 2);
        faults("1,;", 2);
        faults("1,*", 2);
    }

    private static void zerosInFront() {
        Check.sentence("TEXTS", "(each without a zero in front unless it is the single digit 0;");
        for (int i = 0; i < 10; i++) {
            faults("0" + i + ",5", 1);
            faults("5,0" + i, 3);
            faults("5,5;0" + i + ",5", 5);
            faults("5,5;5,0" + i, 7);
        }
        loads("0,5", 1);
        loads("5,0", 1);
        loads("0,0", 1);
        loads("10,10;20,10", 2);
        faults("00", 1);
        faults("000,0", 1);
    }

    private static void digitsTooMany() {
        Check.sentence("TEXTS", "a digit by which it would be greater than told is not allowed)");
        for (int number = 0; number <= 99; number++) {
            int digits = number < 10 ? 1 : 2;
            if (number <= 29) {
                loads(number + ",0", 1);
            } else {
                faults(number + ",0", 1);
            }
            if (number <= 19) {
                loads("0," + number, 1);
            } else {
                faults("0," + number, 3);
            }
            if (number >= 1 && number <= 29 && digits == 2) {
                faults(number + "0,0", 2);
            }
            if (number >= 1 && number <= 19 && digits == 2) {
                faults("0," + number + "0", 4);
            }
        }
        faults("4294967296,0", 1);
        faults("2147483648,0", 2);
        faults("0,4294967296", 3);
    }

    private static void starsOfPerson0() {
        Check.sentence("TEXTS", "and behind it a \"*\" for each dot of the person 0 on it");
        NoteThemes x = Boards.typed("5,5;6,6*;7,7**");
        x.load();
        for (int note = 0; note < 3; note++) {
            Check.due("dots of the person 0", x.dots(0, note), note);
            Check.due("dots of all", x.note(note, 2), note);
        }
        Check.due("left", x.count(4), 21);
        faults("*", 0);
        faults("*5,5", 0);
        faults("5*,5", 1);
        faults("5,*5", 2);
        faults("5,5;*", 4);
    }

    private static void starsOnANote() {
        Check.sentence("TEXTS", "(at most as many on a note as the setting 2 tells,");
        for (int most = 1; most <= 9; most++) {
            NoteThemes x = Boards.typed("5,5;6,6" + "*".repeat(most));
            x.set(1, 9);
            x.set(2, most);
            Check.due("as many as " + most, x.load(), 2);
            Check.due("its dots", x.dots(0, 1), most);
            x.type('*');
            Check.due("one more than " + most, x.load(), -100 - (7 + most));
            Check.due("the dots as before", x.dots(0, 1), most);
        }
    }

    private static void starsInAll() {
        Check.sentence("TEXTS", "in all as many as the setting 1 tells; one more is not allowed).");
        for (int all = 1; all <= 9; all++) {
            NoteThemes x = Boards.typed(Boards.times(all, "5,5*") + ";6,6");
            x.set(1, all);
            x.set(2, 1);
            Check.due("as many as " + all, x.load(), all + 1);
            Check.due("the dots in all", x.count(3), all);
            Check.due("none is left", x.stick(0, all), FULL);
            Check.due("left of the others", x.count(4), 5 * all);
            int length = x.type('*');
            Check.due("one more than " + all, x.load(), -100 - (length - 1));
        }
        NoteThemes others = Boards.at(0, 0, 0, 0);
        others.stick(0, 0);
        others.stick(0, 0);
        others.stick(0, 1);
        others.stick(0, 1);
        Boards.typeAll(others, "5,5**;6,6**");
        Check.due("dots of the board before do not count", others.load(), 2);
    }

    private static void everySignAtEachPlace() {
        Check.sentence("TEXTS",
            "The fault of the text is the index, from 0, of the first character that is not allowed at its place,");
        allowed("", DIGITS, "");
        allowed("0", ",", "");
        allowed("1", DIGITS + ",", "");
        allowed("2", DIGITS + ",", "");
        allowed("3", ",", "");
        allowed("9", ",", "");
        allowed("10", ",", "");
        allowed("29", ",", "");
        allowed("1,", DIGITS, DIGITS);
        allowed("1,0", ";*", "*");
        allowed("1,1", DIGITS + ";*", DIGITS + "*");
        allowed("1,2", ";*", "*");
        allowed("1,9", ";*", "*");
        allowed("1,10", ";*", "*");
        allowed("1,19", ";*", "*");
        allowed("1,1*", ";*", "*");
        allowed("1,1**", ";", "");
        allowed("1,1;", DIGITS, "");
        allowed("1,1;2", DIGITS + ",", "");
        allowed("1,1;2,", DIGITS, DIGITS);
        allowed("1,1**;2,2**", ";", "");
        allowed("1,1**;2,2**;3,3", ";", "");
        faults("1,1;x;1,1,", 4);
        faults("x", 0);
        faults("1,1;30,20", 5);
    }

    /** Behind this text those signs are allowed and no other; behind some of them the text may end. */
    private static void allowed(String text, String signs, String last) {
        for (int sign = 0; sign <= 255; sign++) {
            aSign(text, (char) sign, signs, last);
        }
        for (int i = 0; i < ALL.length(); i++) {
            for (int high = 1; high <= 255; high++) {
                aSign(text, (char) (ALL.charAt(i) + 256 * high), signs, last);
            }
        }
    }

    private static void aSign(String text, char sign, String signs, String last) {
        int due = signs.indexOf(sign) < 0 ? text.length() : last.indexOf(sign) < 0 ? text.length() + 1 : NO_FAULT;
        int notes = (int) text.chars().filter(c -> c == ';').count() + 1;
        Check.due("load() of \"" + text + "\" and the sign " + (int) sign, Boards.loaded(text + sign),
            due == NO_FAULT ? notes : -100 - due);
    }

    private static void textsThatEndTooEarly() {
        Check.sentence("TEXTS", "or the length of the text if it ends too early (the empty text does).");
        faults("", 0);
        String whole = "12,13*;4,5;29,19**;0,0";
        for (int length = 1; length <= whole.length(); length++) {
            String text = whole.substring(0, length);
            String[] notes = text.split(";", -1);
            if (notes[notes.length - 1].matches("[0-9]+,[0-9]+\\**")) {
                loads(text, notes.length);
            } else {
                faults(text, length);
            }
        }
        faults(TWENTY + ";", 80);
        faults(Boards.times(19, "9,9") + ";10,", 79);
        faults(Boards.times(18, "9,9") + ";10,10;2,", 80);
    }

    // ---- Promise 3: load

    private static void promise3() {
        Check.sentence("Promise 3", "Makes the board that of the text, which stays, without themes.");
        NoteThemes x = Before.FULL.make();
        Check.due("load()", x.load(), 20);
        Check.due("themes", x.count(2), 0);
        Check.due("notes without a theme", x.count(5), 20);
        Check.due("dots that are stuck", x.count(3), 1);
        Check.due("the length of the text", x.count(12), 80);
        Check.due("load() again", x.load(), 20);
        Check.due("a theme of the board", x.make(0), 0);
        Check.due("has no votes from before", x.theme(0, 5), 0);
        Check.due("the smallest board", Boards.loaded("0,0"), 1);

        Check.sentence("Promise 3", "Settings stay.");
        int[][] settings = {{20, 9, 9}, {0, 1, 1}};
        for (int[] due : settings) {
            NoteThemes set = Boards.typed("1,1");
            for (int which = 0; which < 3; which++) {
                set.set(which, due[which]);
            }
            set.load();
            for (int which = 0; which < 3; which++) {
                Check.due("the setting " + which, set.count(8 + which), due[which]);
            }
        }

        Check.sentence("Promise 3", "This is an act.");
        Compare.recorded(Before.SOME, "load()", 2, y -> y.load());
        Compare.recorded(Before.FULL, "load()", 20, y -> y.load());
        NoteThemes same = Boards.typed("1,1");
        same.load();
        same.load();
        Check.due("also if the board is that already", same.count(11), 2);
        loadAnswers();
    }

    private static void loadAnswers() {
        Check.sentence("Promise 3", "Returns how many notes there are then;");
        for (int notes = 1; notes <= 20; notes++) {
            NoteThemes x = Boards.typed(Boards.times(notes, "9,9"));
            Check.due("load()", x.load(), notes);
            Check.due("notes", x.count(0), notes);
            Check.due("the last one is there", x.note(notes - 1, 0), 9);
        }

        Check.sentence("Promise 3", "-100 minus the fault of the text if it has one (which is an error);");
        Compare.unchanged(Before.EMPTY, "load()", -100, x -> x.load());
        Compare.unchanged(Before.SOME, "load() of no text", -100, x -> {
            x.clearText();
            int answer = x.load();
            Boards.typeAll(x, "1,1*;5,5");
            return answer;
        });
        Compare.unchanged(Before.SOME, "load() with the third dot on a note", -110, x -> {
            Boards.typeAll(x, "***");
            int answer = x.load();
            x.clearText();
            Boards.typeAll(x, "1,1*;5,5");
            return answer;
        });
        Compare.unchanged(Before.FAULTY, "load()", -179, x -> x.load());
        Check.due("the greatest fault", Boards.loaded(TWENTY + ";"), -180);

        // 21 notes take 83 characters, so that FULL comes about for no text at all.
        Check.sentence("Promise 3", "FULL if there would be more than 20.");
        loads(TWENTY, 20);
        loads(TWENTY + "*", 20);
        NoteThemes long21 = Boards.typed(Boards.times(21, "9,9"));
        Check.due("the text of 21 notes is cut off", long21.count(12), 80);
        Check.due("so that it ends too early", long21.load(), -180);
        Check.due("and there are none", long21.count(0), 0);
        NoteThemes full = Before.FULL.make();
        Check.due("20 notes in place of 20", full.load(), 20);
        Check.due("not behind them", full.count(0), 20);
    }

    // ---- Promise 14: type

    private static void promise14() {
        Check.sentence("Promise 14", "Types a character behind the text.");
        NoteThemes x = new NoteThemes();
        x.type('2');
        x.type(',');
        Check.due("load() of \"2,\"", x.load(), -102);
        x.type('3');
        x.load();
        Check.due("the column of \"2,3\"", x.note(0, 0), 2);
        Check.due("the row of \"2,3\"", x.note(0, 1), 3);
        Check.due("typing is no act", x.count(11), 1);
        NoteThemes typed = Before.SOME.make();
        String state = Boards.state(typed);
        typed.type('9');
        Check.due("states", typed.count(11), Before.SOME_STATES);
        Check.same("the state", Boards.state(typed), state);

        Check.sentence("Promise 14", "`character`: any character");
        NoteThemes any = new NoteThemes();
        char[] signs = {0, 1, '\n', ' ', '0', 'z', 127, 128, 255, 256, 0x0660, 0xd800, 0xdfff, 0xfffe, 0xffff};
        for (int i = 0; i < signs.length; i++) {
            Check.due("type((char) " + (int) signs[i] + ")", any.type(signs[i]), i + 1);
        }
        Check.due("load()", any.load(), -100);

        Check.sentence("Promise 14", "Returns the length of the text then;");
        NoteThemes length = new NoteThemes();
        for (int i = 1; i <= 80; i++) {
            Check.due("type", length.type(';'), i);
        }

        Check.sentence("Promise 14", "FULL if it has 80 characters.");
        Compare.unchanged(Before.FULL, "type('*')", FULL, y -> y.type('*'));
        Compare.unchanged(Before.FULL, "type((char) 0)", FULL, y -> y.type((char) 0));
        Compare.unchanged(Before.FULL, "type((char) 65535)", FULL, y -> y.type((char) 65535));
        NoteThemes one = Boards.typed(TWENTY);
        Check.due("the 80th", one.type('*'), 80);
        Check.due("the 81st", one.type('*'), FULL);
    }

    // ---- Promise 15: clearText

    private static void promise15() {
        Check.sentence("Promise 15", "Empties the text.");
        NoteThemes x = Before.FULL.make();
        x.clearText();
        Check.due("its length", x.count(12), 0);
        Check.due("load()", x.load(), -100);
        Check.same("the state", Boards.state(x), Boards.state(Before.FULL.make()));
        Check.due("clearing is no act", x.count(11), 4);
        Check.due("nothing of it is left", x.type('1'), 1);
        Check.due("load() of \"1\"", x.load(), -101);

        Check.sentence("Promise 15", "Returns the length that it had.");
        for (int length = 0; length <= 80; length++) {
            NoteThemes cleared = Boards.typed("8".repeat(length));
            Check.due("clearText()", cleared.clearText(), length);
            Check.due("clearText() again", cleared.clearText(), 0);
        }
        NoteThemes more = Boards.typed("8".repeat(90));
        Check.due("signs for which there was no room do not count", more.clearText(), 80);
        Compare.unchanged(Before.EMPTY, "clearText()", 0, y -> y.clearText());
        NoteThemes undone = Before.SOME.make();
        undone.clearText();
        undone.undo();
        Check.due("undo() brings no text back", undone.count(12), 0);
        Check.due("nor does restore()", undone.restore() == NONE ? NONE : undone.count(12), 0);
    }
}

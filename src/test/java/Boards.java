/** Boards for the tests, and what several of them do. */
final class Boards {
    private Boards() {
    }

    /** A new board with notes at these places: a column and a row in turn. */
    static NoteThemes at(int... places) {
        NoteThemes x = new NoteThemes();
        for (int i = 0; i + 1 < places.length; i += 2) {
            x.put(places[i], places[i + 1]);
        }
        return x;
    }

    /** A row of notes too far apart to hang together, at most 7 in a row of the board. */
    static NoteThemes alone(int notes) {
        NoteThemes x = new NoteThemes();
        for (int i = 0; i < notes; i++) {
            x.put(i % 7 * 4, i / 7 * 4);
        }
        return x;
    }

    static void typeAll(NoteThemes x, String text) {
        for (int i = 0; i < text.length(); i++) {
            x.type(text.charAt(i));
        }
    }

    /** What load() answers on a new board for a text. */
    static int loaded(String text) {
        NoteThemes x = new NoteThemes();
        typeAll(x, text);
        return x.load();
    }

    /** All that an object tells, in one text; two objects that differ in it are told apart. */
    static String told(NoteThemes x) {
        StringBuilder all = new StringBuilder();
        for (int what = 0; what <= 12; what++) {
            all.append(x.count(what)).append(' ');
        }
        tellNotes(x, all);
        tellThemes(x, all);
        return all.toString();
    }

    /** The same without the length of the history and that of the text, which no state has. */
    static String state(NoteThemes x) {
        StringBuilder all = new StringBuilder();
        for (int what = 0; what <= 10; what++) {
            all.append(x.count(what)).append(' ');
        }
        tellNotes(x, all);
        tellThemes(x, all);
        return all.toString();
    }

    private static void tellNotes(NoteThemes x, StringBuilder all) {
        for (int note = 0; note < x.count(0); note++) {
            all.append("note ");
            for (int what = 0; what <= 6; what++) {
                all.append(x.note(note, what)).append(' ');
            }
            for (int person = 0; person < 6; person++) {
                all.append(x.dots(person, note)).append(' ');
            }
            all.append(x.nearest(note)).append(' ');
        }
        for (int heap = 0; heap < x.count(1); heap++) {
            all.append("heap ");
            for (int what = 0; what <= 6; what++) {
                all.append(x.heap(heap, what)).append(' ');
            }
        }
    }

    private static void tellThemes(NoteThemes x, StringBuilder all) {
        for (int theme = 0; theme < x.count(2); theme++) {
            all.append("theme ");
            for (int what = 0; what <= 5; what++) {
                all.append(x.theme(theme, what)).append(' ');
            }
            for (int name = 0; name < 10; name++) {
                all.append(x.votes(theme, name)).append(' ');
            }
        }
    }
}

/** Boards for the tests, and what several of them do. Each stays under the 512 calls of an object. */
final class Boards {
    private static final int NONE = -5;

    private Boards() {
    }

    /** A new board with notes at these places: a column and a row in turn. */
    static NoteThemes at(int... places) {
        NoteThemes x = new NoteThemes();
        for (int i = 0; i + 1 < places.length; i += 2) {
            x.put(places[i], places[i + 1]);
        }
        return x;
    }

    /** Notes too far apart to hang together, seven in a row of the board. */
    static NoteThemes alone(int notes) {
        NoteThemes x = new NoteThemes();
        for (int i = 0; i < notes; i++) {
            x.put(i % 7 * 4, i / 7 * 4);
        }
        return x;
    }

    /** The same, and a theme of each of the first notes. */
    static NoteThemes themes(int notes, int themes) {
        NoteThemes x = alone(notes);
        for (int heap = 0; heap < themes; heap++) {
            x.make(heap);
        }
        return x;
    }

    static NoteThemes typed(String text) {
        NoteThemes x = new NoteThemes();
        typeAll(x, text);
        return x;
    }

    static void typeAll(NoteThemes x, String text) {
        for (int i = 0; i < text.length(); i++) {
            x.type(text.charAt(i));
        }
    }

    /** What load() answers on a new board for a text. */
    static int loaded(String text) {
        return typed(text).load();
    }

    /** The text of a note so many times. */
    static String times(int notes, String note) {
        return (note + ";").repeat(notes - 1) + note;
    }

    /** All that an object keeps, but the states of its history, its snapshot and the signs of its text. */
    static String told(NoteThemes x) {
        return state(x) + "states " + x.count(11) + " text " + x.count(12);
    }

    /** What a state has: settings, notes, dots, themes and how many voted for which name. */
    static String state(NoteThemes x) {
        StringBuilder all = new StringBuilder();
        all.append(x.count(8)).append(' ').append(x.count(9)).append(' ').append(x.count(10)).append(' ');
        int notes = x.count(0);
        for (int note = 0; note < notes; note++) {
            all.append("note ").append(x.note(note, 0)).append(' ').append(x.note(note, 1)).append(' ');
            all.append(x.note(note, 4)).append(' ');
            for (int person = 0; person < 6; person++) {
                all.append(x.dots(person, note)).append(' ');
            }
        }
        int themes = x.count(2);
        for (int theme = 0; theme < themes; theme++) {
            all.append("theme ");
            for (int name = 0; name < 10; name++) {
                all.append(x.votes(theme, name)).append(' ');
            }
        }
        return all.toString();
    }

    /** What is told of a state and follows from it: heaps, names, ranks and sums. */
    static String follows(NoteThemes x) {
        StringBuilder all = new StringBuilder();
        for (int what = 1; what <= 7; what++) {
            all.append(x.count(what)).append(' ');
        }
        int notes = x.count(0);
        for (int note = 0; note < notes; note++) {
            all.append("note ").append(x.note(note, 2)).append(' ').append(x.note(note, 3)).append(' ');
            all.append(x.note(note, 5)).append(' ').append(x.note(note, 6)).append(' ').append(x.nearest(note)).append(' ');
        }
        int heaps = x.count(1);
        for (int heap = 0; heap < heaps; heap++) {
            all.append("heap ");
            for (int what = 0; what <= 6; what++) {
                all.append(x.heap(heap, what)).append(' ');
            }
        }
        int themes = x.count(2);
        for (int theme = 0; theme < themes; theme++) {
            all.append("theme ");
            for (int what = 0; what <= 5; what++) {
                all.append(x.theme(theme, what)).append(' ');
            }
        }
        return all.toString();
    }

    /** Who voted for which name. To find it out the votes are taken back, so the object is of no use then. */
    static String voters(NoteThemes x) {
        StringBuilder all = new StringBuilder();
        int themes = x.count(2);
        for (int theme = 0; theme < themes; theme++) {
            for (int person = 0; person < 6; person++) {
                if (x.vote(person, theme, NONE) != NONE) {
                    all.append("theme ").append(theme).append(" without the person ").append(person).append(": ");
                    for (int name = 0; name < 10; name++) {
                        all.append(x.votes(theme, name)).append(' ');
                    }
                }
            }
        }
        return all.toString();
    }
}

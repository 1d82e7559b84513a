import java.util.Random;

/** The accounts add up: what is told of notes, heaps, themes and dots fits together, and fits what the acts answer. */
public final class AccountsTest {
    private static final int RUNS = 300;
    private static final int ACTS = 120;
    private static final int PEOPLE = 6;
    private static final int NAMES = 10;
    private static final int NO_NAME = 10;
    private static final int NONE = -5;

    private final int run;

    private AccountsTest(int run) {
        this.run = run;
    }

    public static void main(String[] args) {
        for (int run = 0; run < RUNS && !Check.isWrong(); run++) {
            AccountsTest test = new AccountsTest(run);
            test.heaps();
            test.dots();
            test.themes();
            test.names();
            test.ranks();
            test.reaches();
            test.distances();
            test.drags();
            test.notesThatAreTakenOff();
            test.themesThatAreMade();
            test.themesThatAreMerged();
            test.notesThatBelong();
            test.votesThatAreGiven();
            test.textOfTheBoard();
        }
        Check.end();
    }

    /** The board of this run, the same each time; at most 120 of the 512 calls of the object are used for it. */
    private NoteThemes board(String what) {
        Check.about("run " + run + ", " + what);
        NoteThemes x = new NoteThemes();
        Random random = new Random(31L * run + 7);
        int width = 1 + random.nextInt(30);
        int height = 1 + random.nextInt(20);
        x.set(1, 1 + random.nextInt(9));
        for (int i = 2; i < ACTS; i++) {
            act(x, random.nextInt(12), random, random.nextInt(width), random.nextInt(height));
        }
        x.put(0, 0);
        return x;
    }

    private static void act(NoteThemes x, int kind, Random random, int column, int row) {
        int note = random.nextInt(12);
        int theme = random.nextInt(4);
        int person = random.nextInt(PEOPLE);
        switch (kind) {
            case 0:
                x.takeOff(note);
                break;
            case 1:
                x.drag(note, column, row);
                break;
            case 2:
            case 3:
                x.stick(person, note);
                break;
            case 4:
                x.make(random.nextInt(8));
                break;
            case 5:
                x.merge(theme, random.nextInt(40));
                break;
            case 6:
                x.belong(note, random.nextInt(3) == 0 ? NONE : theme);
                break;
            case 7:
            case 8:
                x.vote(person, theme, random.nextInt(4));
                break;
            case 9:
                x.set(random.nextInt(3), 1 + random.nextInt(6));
                break;
            default:
                x.put(column, row);
                break;
        }
    }

    private int some(int bound) {
        return new Random(97L * run + bound).nextInt(bound);
    }

    // ---- what is told fits together

    private void heaps() {
        NoteThemes x = board("heaps");
        int notes = 0;
        int alone = 0;
        int lowestBefore = -1;
        int heaps = x.count(1);
        for (int heap = 0; heap < heaps; heap++) {
            notes += x.heap(heap, 0);
            alone += x.heap(heap, 0) == 1 ? 1 : 0;
            Check.holds("heaps are numbered by their lowest notes", x.heap(heap, 1) > lowestBefore);
            lowestBefore = x.heap(heap, 1);
            Check.due("the heap of its lowest note", x.note(lowestBefore, 3), heap);
        }
        Check.due("notes of all heaps", notes, x.count(0));
        Check.due("notes alone", x.count(7), alone);
        for (int note = 0; note < notes; note++) {
            Check.holds("a note is alone if none is near",
                (x.note(note, 5) == 0) == (x.heap(x.note(note, 3), 0) == 1));
        }
    }

    private void dots() {
        NoteThemes x = board("dots");
        int stuck = 0;
        int free = 0;
        int[] ofPerson = new int[PEOPLE];
        int notes = x.count(0);
        for (int note = 0; note < notes; note++) {
            int onNote = 0;
            for (int person = 0; person < PEOPLE; person++) {
                ofPerson[person] += x.dots(person, note);
                onNote += x.dots(person, note);
            }
            Check.due("dots of all people on a note", x.note(note, 2), onNote);
            stuck += onNote;
            free += x.note(note, 4) == NONE ? onNote : 0;
        }
        Check.due("dots of all notes", x.count(3), stuck);
        int left = 0;
        for (int dots : ofPerson) {
            left += Math.max(x.count(9) - dots, 0);
        }
        Check.due("dots left of all people", x.count(4), left);
        Check.due("dots of all heaps", sumOfHeaps(x, 2), stuck);
        Check.due("dots of all themes, and of notes without one", sumOfThemes(x, 1) + free, stuck);
    }

    private void themes() {
        NoteThemes x = board("themes");
        int[] notesOf = new int[8];
        int free = 0;
        int notes = x.count(0);
        for (int note = 0; note < notes; note++) {
            int theme = x.note(note, 4);
            if (theme == NONE) {
                free++;
            } else {
                notesOf[theme]++;
            }
        }
        int themes = x.count(2);
        for (int theme = 0; theme < themes; theme++) {
            Check.holds("a theme has notes", notesOf[theme] > 0);
            Check.due("notes of a theme", x.theme(theme, 0), notesOf[theme]);
        }
        Check.due("notes without a theme", x.count(5), free);
        Check.due("notes of all themes, and those without one", sumOfThemes(x, 0) + free, notes);
        Check.due("notes without a theme of all heaps", sumOfHeaps(x, 4), free);
        Check.due("themes of all heaps, and heaps of all themes", sumOfHeaps(x, 3), sumOfThemes(x, 4));
    }

    private static int sumOfHeaps(NoteThemes x, int what) {
        int sum = 0;
        int heaps = x.count(1);
        for (int heap = 0; heap < heaps; heap++) {
            sum += x.heap(heap, what);
        }
        return sum;
    }

    private static int sumOfThemes(NoteThemes x, int what) {
        int sum = 0;
        int themes = x.count(2);
        for (int theme = 0; theme < themes; theme++) {
            sum += x.theme(theme, what);
        }
        return sum;
    }

    private void names() {
        NoteThemes x = board("names");
        boolean[] isTaken = new boolean[NAMES];
        int named = 0;
        int themes = x.count(2);
        for (int theme = 0; theme < themes; theme++) {
            int due = NONE;
            int most = 1;
            int voters = 0;
            for (int name = 0; name < NAMES; name++) {
                int votes = x.votes(theme, name);
                voters += votes;
                if (!isTaken[name] && votes > most) {
                    due = name;
                    most = votes;
                }
            }
            Check.due("people that voted", x.theme(theme, 5), voters);
            Check.due("name", x.theme(theme, 2), due);
            if (due != NONE) {
                isTaken[due] = true;
                named++;
            }
        }
        Check.due("themes with a name", x.count(6), named);
    }

    private void ranks() {
        NoteThemes x = board("ranks");
        int themes = x.count(2);
        int[] themeAt = new int[themes];
        for (int theme = 0; theme < themes; theme++) {
            themeAt[x.theme(theme, 3)] += theme + 1;
        }
        for (int rank = 0; rank < themes; rank++) {
            int theme = themeAt[rank] - 1;
            Check.due("the rank of the theme with it", x.theme(theme, 3), rank);
            if (rank > 0) {
                int ahead = themeAt[rank - 1] - 1;
                int more = x.theme(ahead, 1) - x.theme(theme, 1);
                Check.holds("the theme ahead comes ahead", more > 0 || (more == 0 && ahead < theme));
            }
        }
    }

    private void reaches() {
        NoteThemes x = board("reaches");
        Check.holds("the reach for the heaps there are", x.reachFor(Math.max(x.count(1), 1)) <= x.count(8));
        int before = 48;
        for (int heaps = 1; heaps <= 20; heaps++) {
            int reach = x.reachFor(heaps);
            Check.holds("a lesser reach for more heaps", reach <= before);
            before = reach;
            if (reach <= 20) {
                x.set(0, reach);
                Check.holds("no more heaps than told", x.count(1) <= heaps);
            }
            if (reach > 0 && reach <= 21) {
                x.set(0, reach - 1);
                Check.holds("more heaps with a lesser reach", x.count(1) > heaps);
            }
        }
    }

    private void distances() {
        NoteThemes x = board("distances");
        int notes = x.count(0);
        int[] columns = new int[notes];
        int[] rows = new int[notes];
        int[] themes = new int[notes];
        for (int note = 0; note < notes; note++) {
            columns[note] = x.note(note, 0);
            rows[note] = x.note(note, 1);
            themes[note] = x.note(note, 4);
        }
        int reach = x.count(8);
        for (int note = 0; note < notes; note++) {
            int near = 0;
            int least = 50;
            int nearest = NONE;
            for (int other = 0; other < notes; other++) {
                int distance = Math.abs(columns[note] - columns[other]) + Math.abs(rows[note] - rows[other]);
                near += other != note && distance <= reach ? 1 : 0;
                if (other != note && themes[other] != NONE && distance * 10 + themes[other] < least * 10 + nearest) {
                    least = distance;
                    nearest = themes[other];
                }
            }
            Check.due("notes near", x.note(note, 5), near);
            Check.due("the nearest theme", x.nearest(note), nearest);
        }
    }

    // ---- what the acts answer fits what is told

    private void drags() {
        NoteThemes x = board("drags");
        int notes = x.count(0);
        int note = some(notes);
        int column = some(30);
        int row = some(20);
        int heapBefore = x.note(note, 3);
        boolean[] wasInIt = new boolean[notes];
        for (int other = 0; other < notes; other++) {
            wasInIt[other] = x.note(other, 3) == heapBefore;
        }
        int heapsThen = x.ifDragged(note, column, row, 0);
        int inItsHeapThen = x.ifDragged(note, column, row, 1);
        int partedThen = x.ifDragged(note, column, row, 2);
        int answer = x.drag(note, column, row);
        Check.holds("the answer", answer == NONE || answer == heapsThen);
        Check.due("heaps", x.count(1), heapsThen);
        Check.due("notes in its heap", x.heap(x.note(note, 3), 0), inItsHeapThen);
        int parted = 0;
        for (int other = 0; other < notes; other++) {
            parted += wasInIt[other] && x.note(other, 3) != x.note(note, 3) ? 1 : 0;
        }
        Check.due("notes parted from it", parted, partedThen);
    }

    private void notesThatAreTakenOff() {
        NoteThemes x = board("notes that are taken off");
        int note = some(x.count(0));
        int stuck = x.count(3);
        int notes = x.count(0);
        int heaps = x.count(1);
        int inItsHeap = x.heap(x.note(note, 3), 0);
        boolean isHolding = x.note(note, 6) == 1;
        int back = x.note(note, 2);
        Check.due("dots that come back", x.takeOff(note), back);
        Check.due("dots", x.count(3), stuck - back);
        Check.due("notes", x.count(0), notes - 1);
        if (isHolding) {
            Check.holds("its heap falls apart", x.count(1) > heaps);
        } else {
            Check.due("heaps", x.count(1), inItsHeap == 1 ? heaps - 1 : heaps);
        }
    }

    private void themesThatAreMade() {
        NoteThemes x = board("themes that are made");
        int heap = some(x.count(1));
        int free = x.heap(heap, 4);
        int freeOfAll = x.count(5);
        int themes = x.count(2);
        int theme = x.make(heap);
        if (free == 0) {
            Check.due("make(" + heap + ")", theme, NoteThemes.NOT_POSSIBLE);
            Check.due("themes", x.count(2), themes);
        } else if (themes == 8) {
            Check.due("make(" + heap + ")", theme, NoteThemes.FULL);
            Check.due("themes", x.count(2), themes);
        } else {
            Check.due("make(" + heap + ")", theme, themes);
            Check.due("notes", x.theme(theme, 0), free);
            Check.due("heaps of its notes", x.theme(theme, 4), 1);
            Check.due("notes without a theme", x.count(5), freeOfAll - free);
        }
    }

    private void themesThatAreMerged() {
        NoteThemes x = board("themes that are merged");
        int themes = x.count(2);
        if (themes < 2) {
            return;
        }
        int first = some(themes);
        int second = (first + 1 + some(themes - 1)) % themes;
        int notes = x.theme(first, 0) + x.theme(second, 0);
        int dots = x.theme(first, 1) + x.theme(second, 1);
        int voters = x.theme(first, 5) + x.theme(second, 5);
        int mostVoters = Math.max(x.theme(first, 5), x.theme(second, 5));
        Check.due("merge(" + first + ", " + second + ")", x.merge(first, second), notes);
        int then = second < first ? first - 1 : first;
        Check.due("themes", x.count(2), themes - 1);
        Check.due("notes", x.theme(then, 0), notes);
        Check.due("dots", x.theme(then, 1), dots);
        Check.holds("people that voted", x.theme(then, 5) >= mostVoters && x.theme(then, 5) <= Math.min(voters, PEOPLE));
    }

    private void notesThatBelong() {
        NoteThemes x = board("notes that belong");
        int note = some(x.count(0));
        int themes = x.count(2);
        int free = x.count(5);
        int before = x.note(note, 4);
        if (before == NONE) {
            Check.due("to none already", x.belong(note, NONE), NONE);
            Check.due("notes without a theme", x.count(5), free);
        } else {
            int left = x.theme(before, 0) == 1 ? themes - 1 : themes;
            Check.due("to none", x.belong(note, NONE), left);
            Check.due("themes", x.count(2), left);
            Check.due("notes without a theme", x.count(5), free + 1);
            Check.due("its theme", x.note(note, 4), NONE);
        }
    }

    private void votesThatAreGiven() {
        NoteThemes x = board("votes that are given");
        int themes = x.count(2);
        for (int theme = 0; theme < themes; theme++) {
            for (int person = 0; person < 3; person++) {
                int answer = x.vote(person, theme, 5);
                int name = x.theme(theme, 2);
                Check.holds("the name that is answered", answer == NONE || answer == (name == NONE ? NO_NAME : name));
            }
        }
    }

    /** The board is written down as a text, and read again: notes and dots of the person 0 are the same. */
    private void textOfTheBoard() {
        NoteThemes x = board("the text of the board");
        int notes = Math.min(x.count(0), 9);
        int[] places = new int[2 * notes];
        int[] dots = new int[notes];
        StringBuilder text = new StringBuilder();
        int left = x.count(9);
        for (int note = 0; note < notes; note++) {
            places[2 * note] = x.note(note, 0);
            places[2 * note + 1] = x.note(note, 1);
            dots[note] = Math.min(Math.min(x.dots(0, note), x.count(10)), left);
            left -= dots[note];
            text.append(note == 0 ? "" : ";").append(places[2 * note]).append(',').append(places[2 * note + 1]);
            text.append("*".repeat(dots[note]));
        }
        if (text.length() > 80) {
            return;
        }
        Boards.typeAll(x, text.toString());
        Check.due("load() of " + text, x.load(), notes);
        for (int note = 0; note < notes; note++) {
            Check.due("column", x.note(note, 0), places[2 * note]);
            Check.due("row", x.note(note, 1), places[2 * note + 1]);
            Check.due("dots", x.dots(0, note), dots[note]);
            Check.due("dots of all", x.note(note, 2), dots[note]);
        }
        Check.due("themes", x.count(2), 0);
    }
}

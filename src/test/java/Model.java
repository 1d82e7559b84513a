import java.util.ArrayDeque;
import java.util.ArrayList;
import java.util.Arrays;
import java.util.Comparator;
import java.util.Deque;
import java.util.HashSet;
import java.util.List;
import java.util.Set;
import java.util.regex.Pattern;
import java.util.stream.Collectors;
import java.util.stream.IntStream;

/**
 * The document once more, as plainly as the whole Java library allows and in other ways than the program
 * goes: what the program answers is compared with it.
 */
final class Model {
    private static final int UNKNOWN = -1;
    private static final int BAD_VALUE = -2;
    private static final int FULL = -3;
    private static final int NOT_POSSIBLE = -4;
    private static final int NONE = -5;

    private static final String COLUMN = "(?:[12][0-9]|[0-9])";
    private static final String ROW = "(?:1[0-9]|[0-9])";
    private static final String NOTE = COLUMN + "," + ROW + "\\**";
    private static final Pattern WHOLE = Pattern.compile(NOTE + "(?:;" + NOTE + ")*");
    private static final Pattern BEGUN =
        Pattern.compile("(?:" + NOTE + ";)*(?:" + COLUMN + "|" + COLUMN + ",|" + NOTE + ")?");

    private static final class Theme {
        final int[] votes = {NONE, NONE, NONE, NONE, NONE, NONE};
    }

    private static final class Note {
        int column;
        int row;
        int[] dots = new int[6];
        Theme theme;

        Note(int column, int row) {
            this.column = column;
            this.row = row;
        }

        int allDots() {
            return Arrays.stream(dots).sum();
        }

        int distance(Note other) {
            return Math.abs(column - other.column) + Math.abs(row - other.row);
        }
    }

    private static final class State {
        final List<Note> notes = new ArrayList<>();
        final List<Theme> themes = new ArrayList<>();
        int[] settings = {3, 4, 2};

        State copy() {
            State copy = new State();
            for (Theme theme : themes) {
                Theme other = new Theme();
                System.arraycopy(theme.votes, 0, other.votes, 0, 6);
                copy.themes.add(other);
            }
            for (Note note : notes) {
                Note other = new Note(note.column, note.row);
                other.dots = note.dots.clone();
                other.theme = note.theme == null ? null : copy.themes.get(themes.indexOf(note.theme));
                copy.notes.add(other);
            }
            copy.settings = settings.clone();
            return copy;
        }

        /** The heaps in the order of their lowest notes; each has its notes in their order. */
        List<List<Note>> heaps(int reach) {
            List<List<Note>> heaps = new ArrayList<>();
            Set<Note> seen = new HashSet<>();
            for (Note note : notes) {
                if (!seen.contains(note)) {
                    Set<Note> heap = new HashSet<>();
                    reachFrom(note, reach, heap);
                    seen.addAll(heap);
                    heaps.add(notes.stream().filter(heap::contains).collect(Collectors.toList()));
                }
            }
            return heaps;
        }

        private void reachFrom(Note note, int reach, Set<Note> heap) {
            if (heap.add(note)) {
                notes.stream().filter(other -> note.distance(other) <= reach)
                    .forEach(other -> reachFrom(other, reach, heap));
            }
        }

        List<List<Note>> heaps() {
            return heaps(settings[0]);
        }

        List<Note> heapOf(Note note) {
            return heaps().stream().filter(heap -> heap.contains(note)).findFirst().orElseThrow();
        }

        List<Note> notesOf(Theme theme) {
            return notes.stream().filter(note -> note.theme == theme).collect(Collectors.toList());
        }

        void dropEmptyThemes() {
            themes.removeIf(theme -> notesOf(theme).isEmpty());
        }

        int stuckBy(int person) {
            return notes.stream().mapToInt(note -> note.dots[person]).sum();
        }
    }

    private State now = new State();
    private State snapshot = null;
    private final Deque<State> history = new ArrayDeque<>();
    private String text = "";

    private void record() {
        history.addLast(now.copy());
        if (history.size() > 4) {
            history.removeFirst();
        }
    }

    private static boolean in(int value, int least, int most) {
        return least <= value && value <= most;
    }

    private boolean noNote(int note) {
        return !in(note, 0, now.notes.size() - 1);
    }

    private boolean noTheme(int theme) {
        return !in(theme, 0, now.themes.size() - 1);
    }

    private boolean noHeap(int heap) {
        return !in(heap, 0, now.heaps().size() - 1);
    }

    private static boolean noPlace(int column, int row) {
        return !in(column, 0, 29) || !in(row, 0, 19);
    }

    private static boolean noPerson(int person) {
        return !in(person, 0, 5);
    }

    int put(int column, int row) {
        if (noPlace(column, row)) {
            return UNKNOWN;
        }
        if (now.notes.size() == 20) {
            return FULL;
        }
        record();
        now.notes.add(new Note(column, row));
        return now.notes.size() - 1;
    }

    private boolean mayBegin(String prefix) {
        if (!BEGUN.matcher(prefix).matches()) {
            return false;
        }
        int stars = 0;
        for (String note : prefix.split(";", -1)) {
            int onNote = (int) note.chars().filter(c -> c == '*').count();
            stars += onNote;
            if (onNote > now.settings[2]) {
                return false;
            }
        }
        return stars <= now.settings[1];
    }

    int load() {
        int begun = IntStream.rangeClosed(0, text.length()).filter(n -> mayBegin(text.substring(0, n)))
            .max().orElseThrow();
        if (begun < text.length() || !WHOLE.matcher(text).matches()) {
            return -100 - begun;
        }
        String[] parts = text.split(";");
        if (parts.length > 20) {
            return FULL;
        }
        record();
        now.notes.clear();
        now.themes.clear();
        for (String part : parts) {
            String[] numbers = part.replace("*", "").split(",");
            Note note = new Note(Integer.parseInt(numbers[0]), Integer.parseInt(numbers[1]));
            note.dots[0] = part.length() - part.replace("*", "").length();
            now.notes.add(note);
        }
        return parts.length;
    }

    int takeOff(int note) {
        if (noNote(note)) {
            return UNKNOWN;
        }
        record();
        Note gone = now.notes.remove(note);
        now.dropEmptyThemes();
        return gone.allDots();
    }

    int drag(int note, int column, int row) {
        if (noNote(note) || noPlace(column, row)) {
            return UNKNOWN;
        }
        Note dragged = now.notes.get(note);
        if (dragged.distance(new Note(column, row)) == 0) {
            return NONE;
        }
        record();
        dragged.column = column;
        dragged.row = row;
        return now.heaps().size();
    }

    int dragHeap(int heap, int right, int down) {
        if (noHeap(heap)) {
            return UNKNOWN;
        }
        if (Math.abs((long) right) > 29 || Math.abs((long) down) > 19) {
            return BAD_VALUE;
        }
        List<Note> dragged = now.heaps().get(heap);
        if (dragged.stream().anyMatch(note -> noPlace(note.column + right, note.row + down))) {
            return NOT_POSSIBLE;
        }
        if (right == 0 && down == 0) {
            return NONE;
        }
        record();
        for (Note note : dragged) {
            note.column += right;
            note.row += down;
        }
        return now.heaps().size();
    }

    int stick(int person, int note) {
        if (noPerson(person) || noNote(note)) {
            return UNKNOWN;
        }
        if (now.stuckBy(person) >= now.settings[1]) {
            return FULL;
        }
        if (now.notes.get(note).dots[person] >= now.settings[2]) {
            return NOT_POSSIBLE;
        }
        record();
        now.notes.get(note).dots[person]++;
        return now.notes.get(note).allDots();
    }

    int unstick(int person, int note) {
        if (noPerson(person) || noNote(note)) {
            return UNKNOWN;
        }
        if (now.notes.get(note).dots[person] == 0) {
            return NOT_POSSIBLE;
        }
        record();
        now.notes.get(note).dots[person]--;
        return now.notes.get(note).allDots();
    }

    int make(int heap) {
        if (noHeap(heap)) {
            return UNKNOWN;
        }
        List<Note> notes = now.heaps().get(heap);
        if (notes.stream().allMatch(note -> note.theme != null)) {
            return NOT_POSSIBLE;
        }
        if (now.themes.size() == 8) {
            return FULL;
        }
        record();
        Theme made = new Theme();
        now.themes.add(made);
        notes.stream().filter(note -> note.theme == null).forEach(note -> note.theme = made);
        return now.themes.size() - 1;
    }

    int merge(int first, int second) {
        if (noTheme(first) || noTheme(second)) {
            return UNKNOWN;
        }
        if (first == second) {
            return BAD_VALUE;
        }
        record();
        Theme kept = now.themes.get(first);
        Theme gone = now.themes.remove(second);
        now.notesOf(gone).forEach(note -> note.theme = kept);
        for (int person = 0; person < 6; person++) {
            kept.votes[person] = kept.votes[person] != NONE ? kept.votes[person] : gone.votes[person];
        }
        return now.notesOf(kept).size();
    }

    int belong(int note, int theme) {
        if (noNote(note) || (theme != NONE && noTheme(theme))) {
            return UNKNOWN;
        }
        Theme due = theme == NONE ? null : now.themes.get(theme);
        if (now.notes.get(note).theme == due) {
            return NONE;
        }
        record();
        now.notes.get(note).theme = due;
        now.dropEmptyThemes();
        return now.themes.size();
    }

    int vote(int person, int theme, int name) {
        if (noPerson(person) || noTheme(theme)) {
            return UNKNOWN;
        }
        if (name != NONE && !in(name, 0, 9)) {
            return BAD_VALUE;
        }
        if (now.themes.get(theme).votes[person] == name) {
            return NONE;
        }
        record();
        now.themes.get(theme).votes[person] = name;
        int chosen = names().get(theme);
        return chosen == NONE ? 10 : chosen;
    }

    private int votesFor(Theme theme, int name) {
        return (int) Arrays.stream(theme.votes).filter(vote -> vote == name).count();
    }

    private List<Integer> names() {
        List<Integer> names = new ArrayList<>();
        for (Theme theme : now.themes) {
            List<Integer> free = IntStream.range(0, 10).boxed()
                .filter(name -> votesFor(theme, name) >= 2 && !names.contains(name))
                .sorted(Comparator.comparing((Integer name) -> -votesFor(theme, name)).thenComparing(name -> name))
                .collect(Collectors.toList());
            names.add(free.isEmpty() ? NONE : free.get(0));
        }
        return names;
    }

    int set(int which, int value) {
        if (!in(which, 0, 2)) {
            return UNKNOWN;
        }
        if (which == 0 ? !in(value, 0, 20) : !in(value, 1, 9)) {
            return BAD_VALUE;
        }
        int before = now.settings[which];
        if (before == value) {
            return NONE;
        }
        record();
        now.settings[which] = value;
        return before;
    }

    int type(char character) {
        if (text.length() == 80) {
            return FULL;
        }
        text = text + character;
        return text.length();
    }

    int clearText() {
        int before = text.length();
        text = "";
        return before;
    }

    int undo() {
        if (history.isEmpty()) {
            return NONE;
        }
        now = history.removeLast();
        return history.size();
    }

    int keep() {
        snapshot = now.copy();
        return now.notes.size();
    }

    int restore() {
        if (snapshot == null) {
            return NONE;
        }
        record();
        now = snapshot.copy();
        return now.notes.size();
    }

    int note(int note, int what) {
        if (noNote(note)) {
            return UNKNOWN;
        }
        Note told = now.notes.get(note);
        switch (what) {
            case 0:
                return told.column;
            case 1:
                return told.row;
            case 2:
                return told.allDots();
            case 3:
                return now.heaps().indexOf(now.heapOf(told));
            case 4:
                return told.theme == null ? NONE : now.themes.indexOf(told.theme);
            case 5:
                return (int) now.notes.stream().filter(o -> o != told && o.distance(told) <= now.settings[0]).count();
            case 6:
                State rest = new State();
                rest.notes.addAll(now.heapOf(told));
                rest.notes.remove(told);
                return rest.heaps(now.settings[0]).size() >= 2 ? 1 : 0;
            default:
                return BAD_VALUE;
        }
    }

    int dots(int person, int note) {
        return noPerson(person) || noNote(note) ? UNKNOWN : now.notes.get(note).dots[person];
    }

    private static int allDistances(Note note, List<Note> others) {
        return others.stream().mapToInt(note::distance).sum();
    }

    int heap(int heap, int what) {
        if (noHeap(heap)) {
            return UNKNOWN;
        }
        List<Note> told = now.heaps().get(heap);
        switch (what) {
            case 0:
                return told.size();
            case 1:
                return now.notes.indexOf(told.get(0));
            case 2:
                return told.stream().mapToInt(Note::allDots).sum();
            case 3:
                return (int) told.stream().map(note -> note.theme).filter(theme -> theme != null).distinct().count();
            case 4:
                return (int) told.stream().filter(note -> note.theme == null).count();
            case 5:
                int least = told.stream().mapToInt(note -> allDistances(note, told)).min().orElseThrow();
                return now.notes.indexOf(told.stream().filter(note -> allDistances(note, told) == least)
                    .findFirst().orElseThrow());
            case 6:
                return told.stream().flatMapToInt(a -> told.stream().mapToInt(a::distance)).max().orElseThrow();
            default:
                return BAD_VALUE;
        }
    }

    private int dotsOf(Theme theme) {
        return now.notesOf(theme).stream().mapToInt(Note::allDots).sum();
    }

    int theme(int theme, int what) {
        if (noTheme(theme)) {
            return UNKNOWN;
        }
        Theme told = now.themes.get(theme);
        switch (what) {
            case 0:
                return now.notesOf(told).size();
            case 1:
                return dotsOf(told);
            case 2:
                return names().get(theme);
            case 3:
                List<Theme> ranked = new ArrayList<>(now.themes);
                ranked.sort(Comparator.comparing(t -> -dotsOf(t)));
                return ranked.indexOf(told);
            case 4:
                return (int) now.notesOf(told).stream().map(now::heapOf).distinct().count();
            case 5:
                return (int) Arrays.stream(told.votes).filter(vote -> vote != NONE).count();
            default:
                return BAD_VALUE;
        }
    }

    int votes(int theme, int name) {
        if (noTheme(theme)) {
            return UNKNOWN;
        }
        return in(name, 0, 9) ? votesFor(now.themes.get(theme), name) : BAD_VALUE;
    }

    int ifDragged(int note, int column, int row, int what) {
        if (noNote(note) || noPlace(column, row)) {
            return UNKNOWN;
        }
        if (!in(what, 0, 2)) {
            return BAD_VALUE;
        }
        State then = now.copy();
        Note dragged = then.notes.get(note);
        dragged.column = column;
        dragged.row = row;
        if (what == 0) {
            return then.heaps().size();
        }
        if (what == 1) {
            return then.heapOf(dragged).size();
        }
        return (int) now.heapOf(now.notes.get(note)).stream().map(other -> then.notes.get(now.notes.indexOf(other)))
            .filter(other -> !then.heapOf(dragged).contains(other)).count();
    }

    int reachFor(int heaps) {
        if (!in(heaps, 1, 20)) {
            return BAD_VALUE;
        }
        return IntStream.rangeClosed(0, 48).filter(reach -> now.heaps(reach).size() <= heaps).findFirst().orElseThrow();
    }

    int nearest(int note) {
        if (noNote(note)) {
            return UNKNOWN;
        }
        Note from = now.notes.get(note);
        int best = NONE;
        int least = Integer.MAX_VALUE;
        for (Theme theme : now.themes) {
            int distance = now.notesOf(theme).stream().filter(other -> other != from).mapToInt(from::distance)
                .min().orElse(Integer.MAX_VALUE);
            if (distance < least) {
                least = distance;
                best = now.themes.indexOf(theme);
            }
        }
        return best;
    }

    int count(int what) {
        switch (what) {
            case 0:
                return now.notes.size();
            case 1:
                return now.heaps().size();
            case 2:
                return now.themes.size();
            case 3:
                return now.notes.stream().mapToInt(Note::allDots).sum();
            case 4:
                return IntStream.range(0, 6).map(p -> Math.max(0, now.settings[1] - now.stuckBy(p))).sum();
            case 5:
                return (int) now.notes.stream().filter(note -> note.theme == null).count();
            case 6:
                return (int) names().stream().filter(name -> name != NONE).count();
            case 7:
                return (int) now.heaps().stream().filter(heap -> heap.size() == 1).count();
            case 8:
            case 9:
            case 10:
                return now.settings[what - 8];
            case 11:
                return history.size();
            case 12:
                return text.length();
            default:
                return BAD_VALUE;
        }
    }
}

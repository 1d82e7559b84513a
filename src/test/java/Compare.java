import java.util.EnumMap;
import java.util.LinkedHashMap;
import java.util.Map;
import java.util.function.Function;
import java.util.function.ToIntFunction;

/** Compares an object of which a call was asked with one like it of which it was not. */
final class Compare {
    private static final int NONE = -5;
    private static final int MOST_STATES = 4;
    private static final String SNAPSHOT = "the snapshot";
    private static final String VOTERS_IN_SNAPSHOT = "who voted in the snapshot";
    private static final Map<String, Function<NoteThemes, String>> TELLERS = tellers();
    private static final Map<Before, Map<String, String>> DUE = new EnumMap<>(Before.class);

    private Compare() {
    }

    /** Ways to see all that an object holds; each is used on an object of its own, as some of them change it. */
    private static Map<String, Function<NoteThemes, String>> tellers() {
        Map<String, Function<NoteThemes, String>> tellers = new LinkedHashMap<>();
        tellers.put("the state", Boards::told);
        tellers.put("what follows from the state", Boards::follows);
        tellers.put("who voted", Boards::voters);
        tellers.put(SNAPSHOT, x -> x.restore() == NONE ? "" : "kept " + Boards.state(x));
        tellers.put(VOTERS_IN_SNAPSHOT, x -> x.restore() == NONE ? "" : "kept " + Boards.voters(x));
        tellers.put("the text", x -> x.load() + ": " + Boards.state(x));
        tellers.put("the room behind the text", x -> x.type('*') + ", " + x.load() + ", " + x.clearText());
        for (int i = 1; i <= MOST_STATES + 1; i++) {
            int times = i;
            tellers.put("the history, undone " + i, x -> undone(x, times) + Boards.state(x));
            tellers.put("who voted in the history, undone " + i, x -> undone(x, times) + Boards.voters(x));
        }
        return tellers;
    }

    private static String undone(NoteThemes x, int times) {
        StringBuilder answers = new StringBuilder();
        for (int i = 0; i < times; i++) {
            answers.append(x.undo()).append(' ');
        }
        return answers.toString();
    }

    private static Map<String, String> told(Before before) {
        Map<String, String> told = new LinkedHashMap<>();
        TELLERS.forEach((name, teller) -> told.put(name, teller.apply(before.make())));
        return told;
    }

    /** The call answers what is due, and nothing of the object has changed then. */
    static void unchanged(Before before, String call, int due, ToIntFunction<NoteThemes> asked) {
        Map<String, String> untouched = DUE.computeIfAbsent(before, Compare::told);
        TELLERS.forEach((name, teller) -> {
            NoteThemes x = before.make();
            Check.due(before + ": " + call, asked.applyAsInt(x), due);
            Check.same(before + ": behind " + call + " " + name, teller.apply(x), untouched.get(name));
        });
    }

    /** The call answers what is due, and records the state that was before it; text and snapshot stay. */
    static void recorded(Before before, String call, int due, ToIntFunction<NoteThemes> asked) {
        int states = before.make().count(11);
        int then = Math.min(states + 1, MOST_STATES);
        for (int i = 1; i <= then; i++) {
            NoteThemes x = before.make();
            Check.due(before + ": " + call, asked.applyAsInt(x), due);
            Check.due(before + ": states behind " + call, x.count(11), then);
            Check.due(before + ": the text behind " + call, x.count(12), before.make().count(12));
            Check.due(before + ": undo() behind " + call, undone(x, i, then), then - i);
            NoteThemes y = before.make();
            undone(y, i - 1, states);
            Check.same(before + ": the state that undo() restores", Boards.state(x), Boards.state(y));
            Check.same(before + ": who voted in it", Boards.voters(x), Boards.voters(y));
        }
        snapshotStays(before, call, asked, SNAPSHOT);
        snapshotStays(before, call, asked, VOTERS_IN_SNAPSHOT);
    }

    /** What undo() answers at last, if it is asked so many times. */
    private static int undone(NoteThemes x, int times, int states) {
        int left = states;
        for (int i = 0; i < times; i++) {
            left = x.undo();
        }
        return left;
    }

    private static void snapshotStays(Before before, String call, ToIntFunction<NoteThemes> asked, String name) {
        NoteThemes x = before.make();
        asked.applyAsInt(x);
        Check.same(before + ": behind " + call + " " + name, TELLERS.get(name).apply(x),
            TELLERS.get(name).apply(before.make()));
    }
}

import java.util.Random;

/** Promises 1 to 27: long runs of calls, each answer compared with that of the model. */
public final class ModelTest {
    private static final int RUNS = 1200;
    private static final int CALLS = 512;
    private static final int NONE = -5;
    private static final int[] ODD = {Integer.MIN_VALUE, -100, -6, NONE, -4, -2, -1, 21, 30, 100, Integer.MAX_VALUE};

    private final Random random;
    private final NoteThemes x = new NoteThemes();
    private final Model model = new Model();
    /** How wide the notes lie in this run. */
    private final int width;
    private final int height;
    /** What this run does more than others: 0 nothing, 1 dots, 2 themes, 3 texts, 4 names, 5 on full boards. */
    private final int taste;
    private int calls = 0;

    private ModelTest(int run) {
        random = new Random(7919L * run + 1);
        width = 1 + random.nextInt(random.nextBoolean() ? 12 : 30);
        height = 1 + random.nextInt(random.nextBoolean() ? 8 : 20);
        taste = random.nextInt(6);
        Check.about("run " + run);
    }

    public static void main(String[] args) {
        for (int run = 0; run < RUNS && !Check.isWrong(); run++) {
            new ModelTest(run).go();
        }
        Check.end();
    }

    private void go() {
        if (taste == 5) {
            fill();
        }
        while (calls < CALLS && !Check.isWrong()) {
            int kind = random.nextInt(100);
            if (kind < 40) {
                act();
            } else if (kind < 45) {
                past();
            } else {
                ask();
            }
        }
    }

    /** Notes so many and so far apart that there is room for no more notes, and soon for no more themes. */
    private void fill() {
        same("set(0, 1)", x.set(0, 1), model.set(0, 1));
        for (int i = 0; i < 20; i++) {
            int column = random.nextInt(30);
            int row = random.nextInt(20);
            same("put(" + column + ", " + row + ")", x.put(column, row), model.put(column, row));
        }
        for (int heap = 0; heap < 6; heap++) {
            same("make(" + heap + ")", x.make(heap), model.make(heap));
        }
    }

    private void same(String call, int got, int want) {
        calls++;
        Check.due("call " + calls + ", " + call, got, want);
    }

    private int odd() {
        return ODD[random.nextInt(ODD.length)];
    }

    /** A number from 0 to below the bound, now and then one beyond it. */
    private int upTo(int bound) {
        int kind = random.nextInt(40);
        return kind == 0 ? odd() : kind == 1 ? bound : kind == 2 ? -1 : random.nextInt(Math.max(bound, 1));
    }

    private int column() {
        return random.nextInt(12) == 0 ? upTo(30) : random.nextInt(width);
    }

    private int row() {
        return random.nextInt(12) == 0 ? upTo(20) : random.nextInt(height);
    }

    private int aNote() {
        return upTo(model.count(0));
    }

    private int aHeap() {
        return upTo(model.count(1));
    }

    private int aTheme() {
        return upTo(model.count(2));
    }

    private int aPerson() {
        return upTo(6);
    }

    private int aName() {
        return random.nextInt(6) == 0 ? NONE : random.nextInt(3) == 0 ? upTo(10) : random.nextInt(3);
    }

    private void act() {
        int kind = random.nextInt(20);
        if (kind < 5) {
            kind = taste == 1 ? 9 : taste == 2 ? 13 : taste == 3 ? 19 : taste == 4 ? 16 : kind;
        }
        if (kind < 9) {
            actOnNotes(kind);
        } else if (kind < 19) {
            actOnThemes(kind);
        } else {
            readText();
        }
    }

    private void actOnNotes(int kind) {
        int note = aNote();
        int column = column();
        int row = row();
        if (kind < 4) {
            same("put(" + column + ", " + row + ")", x.put(column, row), model.put(column, row));
        } else if (kind == 4) {
            same("takeOff(" + note + ")", x.takeOff(note), model.takeOff(note));
        } else if (kind < 7) {
            same("drag(" + note + ", " + column + ", " + row + ")", x.drag(note, column, row),
                model.drag(note, column, row));
        } else {
            int heap = aHeap();
            int right = random.nextInt(15) == 0 ? odd() : random.nextInt(11) == 0 ? random.nextInt(61) - 30
                : random.nextInt(9) - 4;
            int down = random.nextInt(15) == 0 ? odd() : random.nextInt(11) == 0 ? random.nextInt(41) - 20
                : random.nextInt(9) - 4;
            same("dragHeap(" + heap + ", " + right + ", " + down + ")", x.dragHeap(heap, right, down),
                model.dragHeap(heap, right, down));
        }
    }

    private void actOnThemes(int kind) {
        int person = aPerson();
        int note = aNote();
        int theme = aTheme();
        if (kind == 9) {
            same("stick(" + person + ", " + note + ")", x.stick(person, note), model.stick(person, note));
        } else if (kind == 10) {
            same("unstick(" + person + ", " + note + ")", x.unstick(person, note), model.unstick(person, note));
        } else if (kind < 14) {
            int heap = aHeap();
            same("make(" + heap + ")", x.make(heap), model.make(heap));
        } else if (kind == 14) {
            int second = aTheme();
            same("merge(" + theme + ", " + second + ")", x.merge(theme, second), model.merge(theme, second));
        } else if (kind == 15) {
            int to = random.nextInt(4) == 0 ? NONE : theme;
            same("belong(" + note + ", " + to + ")", x.belong(note, to), model.belong(note, to));
        } else if (kind < 18) {
            int name = aName();
            same("vote(" + person + ", " + theme + ", " + name + ")", x.vote(person, theme, name),
                model.vote(person, theme, name));
        } else {
            int which = upTo(3);
            int value = random.nextInt(3) == 0 ? upTo(21) : which == 0 ? random.nextInt(7) : upTo(10);
            same("set(" + which + ", " + value + ")", x.set(which, value), model.set(which, value));
        }
    }

    private void readText() {
        if (random.nextInt(3) > 0) {
            same("clearText()", x.clearText(), model.clearText());
        }
        StringBuilder text = new StringBuilder();
        int notes = random.nextInt(6) == 0 ? 1 + random.nextInt(21) : 1 + random.nextInt(5);
        for (int i = 0; i < notes; i++) {
            text.append(i == 0 ? "" : ";").append(random.nextInt(width)).append(',').append(random.nextInt(height));
            for (int stars = random.nextInt(3); stars > 0; stars--) {
                text.append(random.nextInt(3) == 0 ? "*" : "");
            }
        }
        if (random.nextInt(2) == 0) {
            spoil(text);
        }
        for (int i = 0; i < text.length() && calls < CALLS; i++) {
            char sign = text.charAt(i);
            same("type((char) " + (int) sign + ")", x.type(sign), model.type(sign));
        }
        if (calls < CALLS) {
            same("load()", x.load(), model.load());
        }
    }

    private void spoil(StringBuilder text) {
        String signs = "0123456789,;*,;*0 /:a-\u0660";
        int at = random.nextInt(text.length());
        char sign = signs.charAt(random.nextInt(signs.length()));
        int kind = random.nextInt(4);
        if (kind == 0) {
            text.setCharAt(at, sign);
        } else if (kind == 1) {
            text.insert(at, sign);
        } else if (kind == 2) {
            text.deleteCharAt(at);
        } else {
            text.setLength(at);
        }
    }

    private void past() {
        int kind = random.nextInt(10);
        if (kind < 6) {
            same("undo()", x.undo(), model.undo());
        } else if (kind < 8) {
            same("keep()", x.keep(), model.keep());
        } else {
            same("restore()", x.restore(), model.restore());
        }
    }

    private void ask() {
        int note = aNote();
        int theme = aTheme();
        int what = upTo(7);
        switch (random.nextInt(10)) {
            case 0:
                int person = aPerson();
                same("dots(" + person + ", " + note + ")", x.dots(person, note), model.dots(person, note));
                break;
            case 1:
            case 2:
                int heap = aHeap();
                same("heap(" + heap + ", " + what + ")", x.heap(heap, what), model.heap(heap, what));
                break;
            case 3:
            case 4:
                same("theme(" + theme + ", " + what + ")", x.theme(theme, what), model.theme(theme, what));
                break;
            case 5:
                int name = aName();
                same("votes(" + theme + ", " + name + ")", x.votes(theme, name), model.votes(theme, name));
                break;
            case 6:
                askIfDragged(note);
                break;
            case 7:
                askOfReach(note);
                break;
            case 8:
                int counted = upTo(13);
                same("count(" + counted + ")", x.count(counted), model.count(counted));
                break;
            default:
                same("note(" + note + ", " + what + ")", x.note(note, what), model.note(note, what));
                break;
        }
    }

    private void askIfDragged(int note) {
        int column = column();
        int row = row();
        int what = upTo(3);
        same("ifDragged(" + note + ", " + column + ", " + row + ", " + what + ")",
            x.ifDragged(note, column, row, what), model.ifDragged(note, column, row, what));
    }

    private void askOfReach(int note) {
        if (random.nextInt(2) == 0) {
            same("nearest(" + note + ")", x.nearest(note), model.nearest(note));
        } else {
            int heaps = upTo(21);
            same("reachFor(" + heaps + ")", x.reachFor(heaps), model.reachFor(heaps));
        }
    }
}

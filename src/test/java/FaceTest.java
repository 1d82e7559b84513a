import java.io.IOException;
import java.nio.file.Files;
import java.nio.file.Path;
import java.util.List;
import java.util.regex.Matcher;
import java.util.regex.Pattern;
import java.util.stream.Collectors;

/** The public face: what of the class is public is what the document lists, in its order and under its headings. */
public final class FaceTest {
    private static final Path SOURCE = Path.of("src", "main", "java", "NoteThemes.java");
    private static final int CONSTANTS = 5;
    private static final int CALLS = 26;
    private static final int HEADINGS = 6;

    private final String source;

    private FaceTest(String source) {
        this.source = source;
    }

    public static void main(String[] args) throws IOException, ReflectiveOperationException {
        FaceTest test = new FaceTest(Files.readString(SOURCE));
        test.face();
        test.constants();
        test.headings();
        Check.end();
    }

    private void face() {
        Check.about("the public face");
        List<String> due = Document.faceLines();
        Check.due("its lines", due.size(), CONSTANTS + 1 + CALLS);
        Check.same("what is public", publicLines(source).toString(), due.toString());
        Check.due("classes that are public", source.split("\\bpublic final class NoteThemes \\{", -1).length - 1, 1);
    }

    /** The members that are public, as the document has them. */
    private static List<String> publicLines(String code) {
        return code.lines().filter(line -> line.startsWith("    public ")).map(String::trim)
            .map(line -> line.replaceFirst(" \\{$", ";")).collect(Collectors.toList());
    }

    private void constants() throws ReflectiveOperationException {
        Check.about("the constants");
        Matcher told = Pattern.compile("`(\\w+) = (-[0-9]+)`: (.*)").matcher(Document.section("ERRORS"));
        int found = 0;
        while (told.find()) {
            found++;
            String name = told.group(1);
            Check.due(name, NoteThemes.class.getField(name).getInt(null), Integer.parseInt(told.group(2)));
            Check.holds(name + " is described as in the document", source.contains("/** " + told.group(3)
                + " */\n    public static final int " + name + " = "));
        }
        Check.due("constants", found, CONSTANTS);
        Check.due("public fields", NoteThemes.class.getFields().length, CONSTANTS);
    }

    private void headings() {
        Check.about("the headings of the calls");
        Matcher told = Pattern.compile("Ahead of the calls (.*) the interface says: (---- .*)\\.")
            .matcher(Document.section("ERRORS"));
        int found = 0;
        while (told.find()) {
            found++;
            String calls = publicLines(behindHeading("    // " + told.group(2) + "\n")).stream()
                .map(line -> line.replaceFirst("public int (\\w+).*", "`$1`")).collect(Collectors.joining(", "));
            Check.same("what stands below " + told.group(2), calls, told.group(1));
        }
        Check.due("headings", found, HEADINGS);
    }

    private String behindHeading(String heading) {
        int begin = source.indexOf(heading);
        if (begin < 0) {
            return "";
        }
        int end = source.indexOf("    // ---- ", begin + heading.length());
        return source.substring(begin, end < 0 ? source.length() : end);
    }
}

import java.io.IOException;
import java.nio.file.DirectoryStream;
import java.nio.file.Files;
import java.nio.file.Path;
import java.util.BitSet;
import java.util.HashMap;
import java.util.HashSet;
import java.util.Map;
import java.util.Set;
import java.util.regex.Matcher;
import java.util.regex.Pattern;

/** Each sentence of the document's first part, terms and promises is one that some test names and is about. */
public final class SentencesTest {
    private static final Path TESTS = Path.of("src", "test", "java");
    private static final Set<String> FIRST_PART_AND_TERMS =
        Set.of("What it is", "NOTES", "HEAPS", "DOTS", "THEMES, NAMES", "TEXTS", "HISTORY", "ERRORS");
    private static final int PROMISES = 27;
    private static final String TEXT = "((?:[^\"\\\\]|\\\\.)*)";
    private static final Pattern SENTENCE =
        Pattern.compile("Check\\.sentence\\((?:\"" + TEXT + "\"|(\\w+)),\\s*\"" + TEXT + "\"\\)");
    private static final Pattern NAME = Pattern.compile("String (\\w+) = \"" + TEXT + "\";");

    public static void main(String[] args) throws IOException {
        Map<String, Set<String>> named = new HashMap<>();
        try (DirectoryStream<Path> files = Files.newDirectoryStream(TESTS, "*Test.java")) {
            for (Path file : files) {
                addNamed(Files.readString(file), named);
            }
        }
        int promises = 0;
        for (String section : Document.sections()) {
            if (FIRST_PART_AND_TERMS.contains(section) || section.startsWith("Promise ")) {
                isNamed(section, named.getOrDefault(section, Set.of()));
                promises += FIRST_PART_AND_TERMS.contains(section) ? 0 : 1;
            }
        }
        Check.about("the document");
        Check.due("its promises", promises, PROMISES);
        Check.holds("its first part and its terms", Document.sections().containsAll(FIRST_PART_AND_TERMS));
        Check.end();
    }

    private static void addNamed(String source, Map<String, Set<String>> named) {
        String code = source.replaceAll("\"\\s*\\+\\s*\"", "");
        Map<String, String> names = new HashMap<>();
        Matcher name = NAME.matcher(code);
        while (name.find()) {
            names.put(name.group(1), name.group(2));
        }
        Matcher sentence = SENTENCE.matcher(code);
        while (sentence.find()) {
            String section = sentence.group(1) != null ? sentence.group(1) : names.get(sentence.group(2));
            named.computeIfAbsent(section, s -> new HashSet<>()).add(sentence.group(3).replace("\\\"", "\""));
        }
    }

    /** Every word of a section is in a sentence that is named; the face and its headings are for FaceTest. */
    private static void isNamed(String section, Set<String> sentences) {
        Check.about(section);
        String text = Document.section(section).replaceAll("(?m)^Ahead of the calls .*$", "");
        if (section.startsWith("Promise ")) {
            text = text.replaceFirst("`[^`]*`", "");
        }
        BitSet seen = new BitSet();
        for (String sentence : sentences) {
            for (int at = text.indexOf(sentence); at >= 0; at = text.indexOf(sentence, at + 1)) {
                seen.set(at, at + sentence.length());
            }
        }
        StringBuilder left = new StringBuilder();
        for (int i = 0; i < text.length(); i++) {
            left.append(seen.get(i) ? ' ' : text.charAt(i));
        }
        Check.same("what no test names", left.toString().replaceAll("[^A-Za-z0-9]+", " ").trim(), "");
    }
}

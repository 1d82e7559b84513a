import java.io.IOException;
import java.io.UncheckedIOException;
import java.nio.file.Files;
import java.nio.file.Path;
import java.util.LinkedHashMap;
import java.util.List;
import java.util.Map;
import java.util.Set;
import java.util.stream.Collectors;

/** The document ../shared/DOC.md, section by section: "What it is", "NOTES", "Promise 2" and so on. */
final class Document {
    private static final Path FILE = Path.of("..", "shared", "DOC.md");
    private static final Map<String, String> SECTIONS = read();

    private Document() {
    }

    /** The text of a section, or an empty one if there is no such section. */
    static String section(String name) {
        return SECTIONS.getOrDefault(name, "");
    }

    static Set<String> sections() {
        return SECTIONS.keySet();
    }

    /** The lines of the public face, each with its end: "public int load();" and so on. */
    static List<String> faceLines() {
        return section("The public face").lines().map(String::trim).filter(line -> line.endsWith(";"))
            .collect(Collectors.toList());
    }

    private static Map<String, String> read() {
        Map<String, String> sections = new LinkedHashMap<>();
        String name = "";
        for (String line : lines()) {
            if (line.startsWith("## ")) {
                name = line.substring(3).replaceFirst("^(Promise [0-9]+):.*", "$1");
            } else if (line.matches("[A-Z]+(, [A-Z]+)*")) {
                name = line;
            } else {
                sections.merge(name, line + "\n", String::concat);
            }
        }
        return sections;
    }

    private static Iterable<String> lines() {
        try {
            return Files.readAllLines(FILE);
        } catch (IOException e) {
            throw new UncheckedIOException(e);
        }
    }
}

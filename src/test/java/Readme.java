import java.io.IOException;
import java.io.UncheckedIOException;
import java.nio.file.Files;
import java.nio.file.Path;
import java.util.ArrayList;
import java.util.List;
import java.util.regex.Matcher;
import java.util.regex.Pattern;

/** README.md, by its headings. */
final class Readme {
    private static final String PAGE = read();

    private Readme() {
    }

    /** The text below a heading, up to the next heading of its kind or a greater one. */
    static String below(String heading) {
        String mark = heading.substring(0, heading.indexOf(' '));
        Matcher found = Pattern.compile("(?ms)^" + Pattern.quote(heading) + "\n(.*?)(?=^#{1," + mark.length() + "} |\\z)")
            .matcher(PAGE);
        return found.find() ? found.group(1) : "";
    }

    /** The blocks of a language below a heading: "java", "sh" for commands, or "text" for what is printed. */
    static List<String> blocks(String heading, String language) {
        List<String> blocks = new ArrayList<>();
        Matcher found = Pattern.compile("(?ms)^```" + language + "\n(.*?)^```$").matcher(below(heading));
        while (found.find()) {
            blocks.add(found.group(1));
        }
        return blocks;
    }

    /** The first cells of the rows of the tables below a heading, without the heads of the tables. */
    static List<String> firstCells(String heading) {
        List<String> cells = new ArrayList<>();
        Matcher found = Pattern.compile("(?m)^\\| (.*?) \\|.*$").matcher(below(heading));
        while (found.find()) {
            if (found.group().startsWith("| ---")) {
                cells.remove(cells.size() - 1);
            } else {
                cells.add(found.group(1));
            }
        }
        return cells;
    }

    private static String read() {
        try {
            return Files.readString(Path.of("README.md"));
        } catch (IOException e) {
            throw new UncheckedIOException(e);
        }
    }
}

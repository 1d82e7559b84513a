import java.io.IOException;
import java.nio.file.Files;
import java.nio.file.Path;
import java.nio.file.StandardCopyOption;
import java.util.ArrayList;
import java.util.Comparator;
import java.util.List;
import java.util.regex.Matcher;
import java.util.regex.Pattern;
import java.util.stream.Collectors;
import java.util.stream.Stream;

/** README.md holds: its example and its commands do what it says, and its lists leave out nothing. */
public final class ReadmeTest {
    private static final String USE = "## How to use it";
    private static final String ANSWERS = "### The answers";
    private static final String CALLS = "### The calls";
    private static final String TESTS = "## How to run its tests";

    private static final Path PROGRAM = Path.of("src", "main", "java", "NoteThemes.java");
    private static final Path PROJECTS_TESTS = Path.of("src", "test", "java");
    private static final Path SHARED = Path.of("..", "shared");
    private static final Path RUN = Path.of(".ci", "run");

    private static final Pattern CALL_AND_ANSWER =
        Pattern.compile("(?m)^ +(?:int (\\w+) = )?(x\\.\\w+\\(.*\\)); +// (-?[0-9]+|[A-Z_]+)\\b.*$");

    /** What the example prints for such a call: the answer, that which is due, and the call. */
    private static final Pattern DUE = Pattern.compile("(?m)^due (\\S+) (\\S+) (.*)$");

    /** A test that passes if the number is 0; the program answers put() with it. */
    private static final String SMALL_TEST = "public final class %s { public static void main(String[] args) {"
        + " if (new NoteThemes().put(0, 0) != %d) { System.out.println(\"put is wrong\"); System.exit(1); } } }\n";
    private static final String NO_JAVA = "public final class { }\n";

    private final Path folder;

    private ReadmeTest(Path folder) {
        this.folder = folder;
    }

    public static void main(String[] args) throws IOException, InterruptedException {
        Path folder = Files.createTempDirectory("readme");
        try {
            new ReadmeTest(folder).all();
        } finally {
            remove(folder);
        }
        Check.end();
    }

    private static void remove(Path folder) throws IOException {
        try (Stream<Path> paths = Files.walk(folder)) {
            for (Path path : paths.sorted(Comparator.reverseOrder()).collect(Collectors.toList())) {
                Files.delete(path);
            }
        }
    }

    private void all() throws IOException, InterruptedException {
        example();
        answersInExample();
        answers();
        calls();
        allTests();
        oneTestAlone();
        tests();
    }

    // ---- how to use the class

    private void example() throws IOException, InterruptedException {
        Check.about("the example");
        Path project = copy("example", PROGRAM);
        write(project.resolve("Example.java"), one(USE, "java"));
        Shell shell = Shell.run(project, one(USE, "sh"));
        Check.due("exit code", shell.exitCode, 0);
        Check.same("what it prints", shell.printed, one(USE, "text"));
    }

    private void answersInExample() throws IOException, InterruptedException {
        Check.about("the answers in the example");
        String example = one(USE, "java");
        Path project = copy("answers", PROGRAM);
        write(project.resolve("Example.java"), asking(example));
        Matcher line = DUE.matcher(Shell.run(project, one(USE, "sh")).printed);
        int found = 0;
        while (line.find()) {
            found++;
            Check.due(line.group(3), Integer.parseInt(line.group(1)), Integer.parseInt(line.group(2)));
        }
        Check.due("calls with an answer behind them", found, example.split("// ", -1).length - 1);
    }

    /** The example, in which each call that has its answer behind it prints both. */
    private static String asking(String example) {
        Matcher call = CALL_AND_ANSWER.matcher(example);
        StringBuilder asking = new StringBuilder();
        while (call.find()) {
            String name = call.group(1) == null ? "answer" + call.start() : call.group(1);
            String due = call.group(3).matches("[A-Z_]+") ? "NoteThemes." + call.group(3) : call.group(3);
            String line = "int %1$s = %2$s; System.out.println(\"due \" + %1$s + \" \" + (%3$s) + \" %2$s\");";
            call.appendReplacement(asking, Matcher.quoteReplacement(String.format(line, name, call.group(2), due)));
        }
        return call.appendTail(asking).toString();
    }

    private static void answers() {
        Check.about("the list of answers");
        List<String> due = Document.faceLines().stream().filter(line -> line.contains(" = "))
            .map(line -> line.replaceFirst(".* (\\w+) = (-[0-9]+);", "`$1` ($2)")).collect(Collectors.toList());
        due.add("-100 and below");
        Check.same("it", Readme.firstCells(ANSWERS).toString(), due.toString());
    }

    private static void calls() {
        Check.about("the list of calls");
        List<String> due = new ArrayList<>();
        for (String line : Document.faceLines()) {
            Matcher call = Pattern.compile("public int (\\w+)\\((.*)\\);").matcher(line);
            if (call.matches()) {
                String parameters = call.group(2).replaceAll("(int|char) ", "");
                due.add("`" + call.group(1) + "(" + parameters + ")`" + (isAct(call.group(1)) ? " *" : ""));
            }
        }
        Check.same("it", Readme.firstCells(CALLS).toString(), due.toString());
    }

    private static boolean isAct(String call) {
        return Document.sections().stream().map(Document::section)
            .anyMatch(text -> text.contains("`int " + call + "(") && text.contains("This is an act."));
    }

    // ---- how to run its tests

    private void allTests() throws IOException, InterruptedException {
        Path project = small("good");
        runOf("all is well", project, 0, "3 passed, 0 failed");
        runFromElsewhere(project);
        project = small("project");
        write(project.resolve(PROJECTS_TESTS).resolve("BadTest.java"), String.format(SMALL_TEST, "BadTest", 1));
        runOf("a test of the project fails", project, 1, "3 passed, 1 failed", "put is wrong", "FAILED: BadTest");
        project = small("shared");
        write(project.resolve(SHARED).resolve("tests/BadRuns.java"), String.format(SMALL_TEST, "BadRuns", 1));
        runOf("a shared test fails", project, 1, "3 passed, 1 failed", "put is wrong", "FAILED: BadRuns");
        project = small("wrongProgram");
        String program = Files.readString(PROGRAM);
        write(project.resolve(PROGRAM), program.replaceFirst("return board.notes - 1;", "return board.notes;"));
        runOf("the program is wrong", project, 1, "0 passed, 3 failed", "put is wrong");
        project = small("noJavaInShared");
        write(project.resolve(SHARED).resolve("tests/BadRuns.java"), NO_JAVA);
        runOf("a shared test does not compile", project, 1, "3 passed, 1 failed");
        project = small("noJavaInProject");
        write(project.resolve(PROJECTS_TESTS).resolve("BadTest.java"), NO_JAVA);
        runOf("a test of the project does not compile", project, 1, "FAILED: the project's tests do not compile");
        project = small("noJavaInProgram");
        write(project.resolve(PROGRAM), NO_JAVA);
        runOf("the program does not compile", project, 1, "FAILED: " + PROGRAM + " does not compile");
        project = small("noShared");
        remove(project.resolve(SHARED).normalize());
        runOf("the shared tests are not there", project, 1, "1 passed, 1 failed");
    }

    /** A project with the program, the script and small tests: one of its own and two that are shared. */
    private Path small(String name) throws IOException {
        Path project = copy(name, PROGRAM, RUN);
        write(project.resolve(PROJECTS_TESTS).resolve("GoodTest.java"), String.format(SMALL_TEST, "GoodTest", 0));
        write(project.resolve(SHARED).resolve("tests/GoodRuns.java"), String.format(SMALL_TEST, "GoodRuns", 0));
        write(project.resolve(SHARED).resolve("tests/deeper/MoreRuns.java"), String.format(SMALL_TEST, "MoreRuns", 0));
        return project;
    }

    private void runOf(String what, Path project, int exitCode, String lastLine, String... told)
            throws IOException, InterruptedException {
        Check.about("the command for all tests, if " + what);
        List<String> before = files(project);
        Shell shell = Shell.run(project, Readme.blocks(TESTS, "sh").get(0));
        Check.due("exit code", shell.exitCode, exitCode);
        Check.same("the last line", shell.lastLine(), lastLine);
        for (String line : told) {
            Check.holds("\"" + line + "\" is told", shell.printed.contains(line));
        }
        Check.same("the files of the project", files(project).toString(), before.toString());
    }

    private void runFromElsewhere(Path project) throws IOException, InterruptedException {
        Check.about("the command for all tests, if it is called from another folder");
        Shell shell = Shell.run(folder, "'" + project + "'/" + Readme.blocks(TESTS, "sh").get(0));
        Check.due("exit code", shell.exitCode, 0);
        Check.same("the last line", shell.lastLine(), "3 passed, 0 failed");
    }

    private void oneTestAlone() throws IOException, InterruptedException {
        Check.about("the command for one test");
        Path project = copy("alone", PROGRAM);
        copyAll(PROJECTS_TESTS, project.resolve(PROJECTS_TESTS));
        copyAll(SHARED, project.resolve(SHARED));
        Shell shell = Shell.run(project, Readme.blocks(TESTS, "sh").get(1));
        Check.due("exit code", shell.exitCode, 0);
        Check.holds("it has run", shell.lastLine().matches("[0-9]+ checks are as due"));
    }

    private static void tests() throws IOException {
        Check.about("the list of tests");
        List<String> due;
        try (Stream<Path> paths = Files.list(PROJECTS_TESTS)) {
            due = paths.map(path -> path.getFileName().toString()).filter(name -> name.endsWith("Test.java"))
                .map(name -> "`" + name.replace(".java", "") + "`").sorted().collect(Collectors.toList());
        }
        List<String> told = new ArrayList<>(Readme.firstCells(TESTS));
        told.sort(Comparator.naturalOrder());
        Check.same("it", told.toString(), due.toString());
        Check.holds("the script can be run", Files.isExecutable(RUN));
    }

    // ---- what the tests above share

    /** The one block of a language below a heading. */
    private static String one(String heading, String language) {
        List<String> blocks = Readme.blocks(heading, language);
        Check.due("blocks of " + language + " below " + heading, blocks.size(), 1);
        return blocks.isEmpty() ? "" : blocks.get(0);
    }

    /** A project of its own in a folder of its own, with these files of this one. */
    private Path copy(String name, Path... files) throws IOException {
        Path project = folder.resolve(name).resolve("main");
        for (Path file : files) {
            Files.createDirectories(project.resolve(file).getParent());
            Files.copy(file, project.resolve(file), StandardCopyOption.COPY_ATTRIBUTES);
        }
        return project;
    }

    private static void copyAll(Path from, Path to) throws IOException {
        try (Stream<Path> paths = Files.walk(from)) {
            for (Path path : paths.filter(Files::isRegularFile).collect(Collectors.toList())) {
                Path copy = to.resolve(from.relativize(path).toString()).normalize();
                Files.createDirectories(copy.getParent());
                Files.copy(path, copy);
            }
        }
    }

    private static void write(Path file, String text) throws IOException {
        Path to = file.normalize();
        Files.createDirectories(to.getParent());
        Files.writeString(to, text);
    }

    private static List<String> files(Path project) throws IOException {
        try (Stream<Path> paths = Files.walk(project)) {
            return paths.map(Path::toString).sorted().collect(Collectors.toList());
        }
    }
}

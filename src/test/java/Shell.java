import java.io.File;
import java.io.IOException;
import java.io.UncheckedIOException;
import java.nio.file.Files;
import java.nio.file.Path;

/** Commands that a shell runs in a folder. Several can run at once, as each is waited for only when it is asked. */
final class Shell {
    private final Process process;
    private final Path printed;

    private Shell(Process process, Path printed) {
        this.process = process;
        this.printed = printed;
    }

    /** What they print is kept outside of the folder, so that it holds only what they write there. */
    static Shell start(Path folder, String commands) throws IOException {
        Path printed = Files.createTempFile("printed", ".txt");
        printed.toFile().deleteOnExit();
        ProcessBuilder builder = new ProcessBuilder("sh", "-e", "-c", commands);
        builder.directory(folder.toFile()).redirectErrorStream(true).redirectOutput(printed.toFile());
        builder.redirectInput(new File("/dev/null"));
        return new Shell(builder.start(), printed);
    }

    int exitCode() {
        try {
            return process.waitFor();
        } catch (InterruptedException e) {
            throw new IllegalStateException(e);
        }
    }

    String printed() {
        exitCode();
        try {
            return Files.readString(printed);
        } catch (IOException e) {
            throw new UncheckedIOException(e);
        }
    }

    /** The last line that was printed. */
    String lastLine() {
        String[] lines = printed().split("\n");
        return lines[lines.length - 1];
    }
}

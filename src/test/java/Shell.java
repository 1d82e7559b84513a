import java.io.File;
import java.io.IOException;
import java.nio.file.Files;
import java.nio.file.Path;

/** Commands that a shell has run in a folder: how they ended, and what they printed. */
final class Shell {
    final int exitCode;
    final String printed;

    private Shell(int exitCode, String printed) {
        this.exitCode = exitCode;
        this.printed = printed;
    }

    /** What they print is kept outside of the folder, so that the folder holds only what they write there. */
    static Shell run(Path folder, String commands) throws IOException, InterruptedException {
        Path printed = Files.createTempFile("printed", ".txt");
        try {
            ProcessBuilder builder = new ProcessBuilder("sh", "-e", "-c", commands);
            builder.directory(folder.toFile()).redirectErrorStream(true).redirectOutput(printed.toFile());
            builder.redirectInput(new File("/dev/null"));
            int exitCode = builder.start().waitFor();
            return new Shell(exitCode, Files.readString(printed));
        } finally {
            Files.delete(printed);
        }
    }

    /** The last line that was printed. */
    String lastLine() {
        String[] lines = printed.split("\n");
        return lines[lines.length - 1];
    }
}

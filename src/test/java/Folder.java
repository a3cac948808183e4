import java.io.IOException;
import java.nio.charset.StandardCharsets;
import java.nio.file.Files;
import java.nio.file.Path;
import java.nio.file.StandardCopyOption;
import java.util.Comparator;
import java.util.List;
import java.util.stream.Stream;

/** A folder for files and commands of a test, which is gone when the test is done with it. */
final class Folder implements AutoCloseable {
    private final Path top;
    private String printed = "";

    Folder() throws IOException {
        top = Files.createTempDirectory("folder");
    }

    Path write(String name, String text) throws IOException {
        Path file = top.resolve(name);
        Files.createDirectories(file.getParent());
        return Files.writeString(file, text);
    }

    /** Copies a file of the project to the same place in the folder. */
    void copy(String name) throws IOException {
        copy(name, name);
    }

    void copy(String name, String to) throws IOException {
        Path file = top.resolve(to);
        Files.createDirectories(file.getParent());
        Files.copy(Path.of(name), file, StandardCopyOption.REPLACE_EXISTING, StandardCopyOption.COPY_ATTRIBUTES);
    }

    /** The exit code of a command of the shell that is given in the folder. */
    int run(String command) throws IOException, InterruptedException {
        Process process = new ProcessBuilder("sh", "-c", command).directory(top.toFile()).redirectErrorStream(true)
                .start();
        process.getOutputStream().close();
        printed = new String(process.getInputStream().readAllBytes(), StandardCharsets.UTF_8);
        return process.waitFor();
    }

    /** What the last command printed. */
    String printed() {
        return printed;
    }

    @Override
    public void close() throws IOException {
        List<Path> files;
        try (Stream<Path> walk = Files.walk(top)) {
            files = walk.sorted(Comparator.reverseOrder()).toList();
        }
        for (Path file : files) {
            Files.delete(file);
        }
    }
}

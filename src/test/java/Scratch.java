import java.io.IOException;
import java.nio.charset.StandardCharsets;
import java.nio.file.Files;
import java.nio.file.Path;
import java.util.Comparator;
import java.util.List;
import java.util.stream.Stream;

/** A folder of its own for a test that runs other programs; it is gone when the test is done. */
final class Scratch implements AutoCloseable {
    /** How a program ended, and all that it printed. */
    record Ended(int code, String printed) { }

    private final Path folder;

    Scratch() throws IOException {
        folder = Files.createTempDirectory("third-day");
    }

    Path at(String place) {
        return folder.resolve(place);
    }

    void write(String place, String text) throws IOException {
        Files.createDirectories(at(place).getParent());
        Files.writeString(at(place), text);
    }

    Ended run(String place, String... command) throws IOException, InterruptedException {
        Process process = new ProcessBuilder(command).directory(at(place).toFile()).redirectErrorStream(true).start();
        process.getOutputStream().close();
        String printed = new String(process.getInputStream().readAllBytes(), StandardCharsets.UTF_8);
        return new Ended(process.waitFor(), printed);
    }

    @Override
    public void close() throws IOException {
        List<Path> deepestFirst;
        try (Stream<Path> all = Files.walk(folder)) {
            deepestFirst = all.sorted(Comparator.reverseOrder()).toList();
        }
        for (Path path : deepestFirst) {
            Files.delete(path);
        }
    }
}

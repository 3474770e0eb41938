import java.io.IOException;
import java.nio.file.Files;
import java.nio.file.Path;
import java.util.Comparator;
import java.util.List;
import java.util.stream.Stream;

/** Folders that a test makes for itself and takes away. */
final class Folders {
    private Folders() {
    }

    static void write(Path file, String text) throws IOException {
        Files.createDirectories(file.getParent());
        Files.writeString(file, text);
    }

    static void remove(Path folder) throws IOException {
        List<Path> all;
        try (Stream<Path> found = Files.walk(folder)) {
            all = found.sorted(Comparator.reverseOrder()).toList();
        }
        for (Path one : all) {
            Files.delete(one);
        }
    }
}

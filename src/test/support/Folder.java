import java.io.IOException;
import java.nio.file.Files;
import java.nio.file.Path;
import java.util.Comparator;
import java.util.List;
import java.util.stream.Collectors;
import java.util.stream.Stream;

/** What the tests do with the folders in which they compile something aside. */
final class Folder {
    private Folder() {
    }

    /** Removes it with all that is in it, which must be gone ahead of it. */
    static void remove(Path folder) throws IOException {
        List<Path> paths;
        try (Stream<Path> walked = Files.walk(folder)) {
            paths = walked.sorted(Comparator.reverseOrder()).collect(Collectors.toList());
        }
        for (Path path : paths) {
            Files.delete(path);
        }
    }
}

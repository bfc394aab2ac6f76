import java.io.IOException;
import java.nio.file.Files;
import java.nio.file.Path;
import java.util.List;
import java.util.stream.Collectors;
import java.util.stream.Stream;

/** Directories that a test makes and takes away again. */
final class Temporary {
    private Temporary() {
    }

    static Path make(String name) throws IOException {
        return Files.createTempDirectory(name);
    }

    /** What is inside goes first. */
    static void delete(Path directory) throws IOException {
        List<Path> files;
        try (Stream<Path> walk = Files.walk(directory)) {
            files = walk.collect(Collectors.toList());
        }
        for (int i = files.size() - 1; i >= 0; i--) {
            Files.delete(files.get(i));
        }
    }
}

import java.io.IOException;
import java.io.UncheckedIOException;
import java.nio.file.Files;
import java.nio.file.Path;
import java.util.List;
import java.util.stream.Stream;

/** The texts that tests read; .ci/run runs the tests in the project's folder, where these paths begin. */
final class Texts {
    static final String DOCUMENT = "../shared/DOC.md";
    static final String README = "README.md";
    static final String CLASS_FOLDER = "src/main/java";
    static final String CLASS = CLASS_FOLDER + "/WaterCascade.java";
    static final String TEST_FOLDER = "src/test/java";

    private Texts() {
    }

    static List<String> linesOf(String path) {
        try {
            return Files.readAllLines(Path.of(path));
        } catch (IOException e) {
            throw new UncheckedIOException(e);
        }
    }

    /** The first block of Java in a text. */
    static List<String> javaIn(List<String> lines) {
        int start = lines.indexOf("```java") + 1;
        List<String> rest = lines.subList(start, lines.size());
        return rest.subList(0, rest.indexOf("```"));
    }

    static List<String> filesIn(String folder) {
        try (Stream<Path> files = Files.list(Path.of(folder))) {
            return files.map(file -> file.getFileName().toString()).sorted().toList();
        } catch (IOException e) {
            throw new UncheckedIOException(e);
        }
    }
}

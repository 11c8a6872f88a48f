import java.io.IOException;
import java.io.UncheckedIOException;
import java.nio.file.Files;
import java.nio.file.Path;

/** The document, as it stands beside the project. */
final class Document {
    private static final Path PLACE = Path.of("../shared/DOC.md");
    private static final String TEXT = read();

    private Document() { }

    /** Whether it says so in these words; true, too, where there is no document to look at. */
    static boolean says(String words) {
        return TEXT == null || TEXT.contains(words);
    }

    private static String read() {
        try {
            return Files.exists(PLACE) ? Files.readString(PLACE) : null;
        } catch (IOException unread) {
            throw new UncheckedIOException(unread);
        }
    }
}

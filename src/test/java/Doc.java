import java.io.IOException;
import java.io.UncheckedIOException;
import java.nio.file.Files;
import java.nio.file.Path;

/** The document's words, so that a test can't quote what it does not say. */
final class Doc {
    private static final Path FILE = Path.of("../shared/DOC.md");
    private static final String WORDS = read();

    private Doc() { }

    private static String read() {
        try {
            return Files.exists(FILE) ? plain(Files.readString(FILE)) : "";
        } catch (IOException e) {
            throw new UncheckedIOException(e);
        }
    }

    static String plain(String words) {
        return words.replace("`", "").replaceAll("\\s+", " ");
    }

    static String words() {
        return WORDS;
    }

    /** Where the document is not at hand, nothing is held against a quote. */
    static boolean has(String quote) {
        return WORDS.isEmpty() || WORDS.contains(plain(quote));
    }
}

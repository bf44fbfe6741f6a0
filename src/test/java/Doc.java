import java.io.IOException;
import java.nio.file.Files;
import java.nio.file.Path;

/** The document's text, so that a test can only quote words that stand in it. */
final class Doc {
    private static final Path PATH = Path.of("..", "shared", "DOC.md");
    private static final String TEXT = read();

    private Doc() {
    }

    static boolean says(String words) {
        return TEXT.isEmpty() || TEXT.contains(words);
    }

    private static String read() {
        if (!Files.isReadable(PATH)) {
            System.out.println(PATH + " can't be read, so the quoted words aren't looked up in it");
            return "";
        }
        try {
            return Files.readString(PATH);
        } catch (IOException e) {
            throw new IllegalStateException(e);
        }
    }
}

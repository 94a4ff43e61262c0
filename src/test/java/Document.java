import java.io.IOException;
import java.nio.file.Files;
import java.nio.file.Path;

/** The document, so that a test can name the sentence that it holds. */
final class Document {
    private static final Path FILE = Path.of("../shared/DOC.md");
    private static String text = null;

    private Document() {
    }

    /** The sentence, which must stand in the document (without its promise's number) word by word. */
    static String says(int promise, String sentence) {
        Checks.due("the document says: " + sentence, text().contains(sentence) ? 1 : 0, 1);
        return promise + ": " + sentence + " |";
    }

    private static String text() {
        if (text == null) {
            try {
                text = Files.readString(FILE);
            } catch (IOException e) {
                text = "";
            }
        }
        return text;
    }
}

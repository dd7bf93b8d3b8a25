import java.io.IOException;
import java.nio.charset.StandardCharsets;
import java.nio.file.Files;
import java.nio.file.Path;

/** The document, so that a test can name the very words that it is about; run from the project's folder. */
final class Doc {
    private static final Path FILE = Path.of("../shared/DOC.md");
    private static final String TEXT = read();

    private Doc() {
    }

    private static String read() {
        try {
            return Files.readString(FILE, StandardCharsets.UTF_8).replaceAll("\\s+", " ");
        } catch (IOException e) {
            return "";
        }
    }

    /** What stands under a promise's heading; under the terms' one for 0. */
    private static String part(int promise) {
        String heading = promise == 0 ? "## Terms " : "## Promise " + promise + ": ";
        int from = TEXT.indexOf(heading);
        if (from < 0) {
            return "";
        }
        int to = TEXT.indexOf(" ## ", from);
        return TEXT.substring(from, to < 0 ? TEXT.length() : to);
    }

    static boolean says(int promise, String words) {
        return part(promise).contains(words);
    }

    /** A part without its heading and without the line of the face that it begins with. */
    static String sentences(int promise) {
        String text = part(promise);
        int from = promise == 0 ? "## Terms ".length() : text.lastIndexOf("`: ") + 3;
        return text.substring(Math.min(from, text.length()));
    }
}

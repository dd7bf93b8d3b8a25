import java.io.IOException;
import java.nio.file.DirectoryStream;
import java.nio.file.Files;
import java.nio.file.Path;
import java.util.Arrays;
import java.util.regex.Matcher;
import java.util.regex.Pattern;

/** Every stretch of the terms and of the promises is named by a test: by the words that Due.about() is given. */
public final class CoverTest {
    private static final Pattern ABOUT = Pattern.compile("due\\.about\\((\\d+), \"((?:[^\"\\\\]|\\\\.)*)\"\\)");
    private static final Path TESTS = Path.of("src/test/java");
    private static final int PROMISES = 48;
    /** Words that only join two sentences, or name what is told elsewhere, stay below this. */
    private static final int SHORT = 30;

    private CoverTest() {
    }

    public static void main(String[] args) throws IOException {
        Due due = new Due();
        String[] parts = new String[PROMISES + 1];
        boolean[][] named = new boolean[PROMISES + 1][];
        for (int i = 0; i <= PROMISES; i++) {
            parts[i] = Doc.sentences(i);
            named[i] = new boolean[parts[i].length()];
            due.same("part " + i + " is there", parts[i].isEmpty() ? 0 : 1, 1);
        }
        try (DirectoryStream<Path> files = Files.newDirectoryStream(TESTS, "*Test.java")) {
            for (Path file : files) {
                Matcher m = ABOUT.matcher(Files.readString(file));
                while (m.find()) {
                    int part = Integer.parseInt(m.group(1));
                    name(parts[part], named[part], m.group(2).replace("\\\"", "\""));
                }
            }
        }
        for (int i = 0; i <= PROMISES; i++) {
            for (String stretch : unnamed(parts[i], named[i]).split("\n+")) {
                due.same((i == 0 ? "terms" : "promise " + i) + ": no test names \"" + stretch + "\"", stretch.length() < SHORT ? 1 : 0, 1);
            }
        }
        due.close("CoverTest");
    }

    private static void name(String part, boolean[] named, String words) {
        for (int at = part.indexOf(words); at >= 0; at = part.indexOf(words, at + 1)) {
            Arrays.fill(named, at, at + words.length(), true);
        }
    }

    /** What no test names, a line for each stretch. */
    private static String unnamed(String part, boolean[] named) {
        StringBuilder b = new StringBuilder();
        for (int i = 0; i < named.length; i++) {
            b.append(named[i] ? '\n' : part.charAt(i));
        }
        return b.toString();
    }
}

import java.io.IOException;
import java.lang.reflect.Method;
import java.lang.reflect.Modifier;
import java.nio.file.DirectoryStream;
import java.nio.file.Files;
import java.nio.file.Path;
import java.util.ArrayList;
import java.util.Arrays;
import java.util.HashSet;
import java.util.List;
import java.util.Set;
import java.util.TreeSet;
import java.util.regex.Matcher;
import java.util.regex.Pattern;

/** The calls that README.md shows compile, and answer what it says that they answer; run from the project's folder. */
public final class ReadmeTest {
    private static final Pattern BLOCK = Pattern.compile("(?ms)^```java\n(.*?)^```$");
    private static final Pattern NEW = Pattern.compile("UnreadyLead x = new UnreadyLead\\(\\);");
    private static final Pattern CALL = Pattern.compile("(x\\.(\\w+)\\(.*\\)); +// (?:(-?\\d+)|throws (\\w+))(: .+)?");
    private static final Pattern FED = Pattern.compile("x\\.feed\\((.*)\\); +// .*\"(.*)\".*");
    private static final String NAME = "ReadmeCalls";

    private static final Due due = new Due();
    /** The blocks as they stand there, and the same calls, each with its check. */
    private static final StringBuilder helpers = new StringBuilder();
    private static final StringBuilder shown = new StringBuilder();
    private static final StringBuilder checked = new StringBuilder();
    private static final Set<String> calls = new HashSet<>();

    private ReadmeTest() {
    }

    public static void main(String[] args) throws IOException, InterruptedException {
        String readme = Files.readString(Path.of("README.md"));
        Matcher blocks = BLOCK.matcher(readme);
        while (blocks.find()) {
            take(blocks.group(1));
        }
        everyCallIsShown();
        theTablesAreComplete(readme);
        howToRunTheTests(readme);
        runs();
        due.close("ReadmeTest");
    }

    /** A block is either one of methods or one of calls. */
    private static void take(String block) {
        if (block.startsWith("static ")) {
            helpers.append(block);
            return;
        }
        shown.append(block);
        for (String line : block.split("\n")) {
            takeLine(line);
        }
    }

    private static void takeLine(String line) {
        Matcher call = CALL.matcher(line);
        if (NEW.matcher(line).matches()) {
            checked.append(line).append('\n');
        } else if (call.matches()) {
            calls.add(call.group(2));
            checked.append(check(call)).append('\n');
            bytesAreTheText(line);
        } else {
            due.same("README.md tells what this answers: " + line, 0, 1);
        }
    }

    private static String check(Matcher call) {
        String name = "\"" + call.group(1).replace("\\", "\\\\").replace("\"", "\\\"") + "\"";
        if (call.group(4) != null) {
            return "due.refuses(" + name + ", " + call.group(4) + ".class, () -> " + call.group(1) + ");";
        }
        return "due.same(" + name + ", " + call.group(1) + ", " + call.group(3) + "L);";
    }

    /** Numbers are hard to read: the text that README.md writes behind them must be theirs. */
    private static void bytesAreTheText(String line) {
        Matcher fed = FED.matcher(line);
        if (fed.matches()) {
            StringBuilder numbers = new StringBuilder();
            for (int n : Due.rows(fed.group(2))[0]) {
                numbers.append(numbers.length() == 0 ? "" : ", ").append("0x").append(Integer.toHexString(n));
            }
            due.same("the numbers of \"" + fed.group(2) + "\"", fed.group(1), numbers.toString());
        } else {
            due.same("the text is told of " + line, line.startsWith("x.feed(") ? 1 : 0, 0);
        }
    }

    private static void everyCallIsShown() {
        for (Method m : UnreadyLead.class.getDeclaredMethods()) {
            if (Modifier.isPublic(m.getModifiers())) {
                due.same("README.md shows " + m.getName(), calls.contains(m.getName()) ? 1 : 0, 1);
            }
        }
    }

    private static void theTablesAreComplete(String readme) throws IOException {
        Set<String> rows = new TreeSet<>();
        Matcher m = Pattern.compile("(?m)^\\| `(\\w+)` \\| .+ \\|$").matcher(readme);
        while (m.find()) {
            rows.add(m.group(1));
        }
        Set<String> want = new TreeSet<>();
        for (Class<?> c : UnreadyLead.class.getDeclaredClasses()) {
            want.add(c.getSimpleName());
        }
        try (DirectoryStream<Path> files = Files.newDirectoryStream(Path.of("src/test/java"), "*Test.java")) {
            for (Path file : files) {
                want.add(file.getFileName().toString().replace(".java", ""));
            }
        }
        due.same("tests and classes in the tables of README.md", rows, want);
    }

    private static void howToRunTheTests(String readme) {
        due.same("README.md tells .ci/run", readme.contains("```sh\n.ci/run\n```") ? 1 : 0, 1);
        due.same(".ci/run can be run", Files.isExecutable(Path.of(".ci/run")) ? 1 : 0, 1);
    }

    private static void runs() throws IOException, InterruptedException {
        Path folder = Files.createTempDirectory("readme");
        Path source = folder.resolve(NAME + ".java");
        String path = System.getProperty("java.class.path");
        List<String> lines = Arrays.asList("import java.util.NoSuchElementException;", "", "final class " + NAME + " {", helpers.toString(),
            "static void shown() {", shown.toString(), "}", "",
            "public static void main(String[] args) {", "Due due = new Due();", checked.toString(), "due.close(\"README.md\");", "}", "}");
        Files.write(source, lines);
        int compiled = program("javac", "-cp", path, "-d", folder.toString(), source.toString());
        due.same("compiling the calls of README.md", compiled, 0);
        if (compiled == 0) {
            due.same("the calls of README.md", program("java", "-cp", folder + java.io.File.pathSeparator + path, NAME), 0);
        }
        try (DirectoryStream<Path> files = Files.newDirectoryStream(folder)) {
            for (Path file : files) {
                Files.delete(file);
            }
        }
        Files.delete(folder);
    }

    private static int program(String... words) throws IOException, InterruptedException {
        return new ProcessBuilder(new ArrayList<>(Arrays.asList(words))).inheritIO().start().waitFor();
    }
}

import java.io.IOException;
import java.lang.reflect.Constructor;
import java.lang.reflect.Field;
import java.lang.reflect.Method;
import java.lang.reflect.Modifier;
import java.nio.file.Files;
import java.nio.file.Path;
import java.util.Set;
import java.util.TreeSet;
import java.util.regex.Matcher;
import java.util.regex.Pattern;

/** The document ahead of its terms: the public face, word by word, and the 512 calls; run from the project's folder. */
public final class FaceTest {
    private static final Pattern FACE = Pattern.compile("(?s)## The public face\\s+```java\n(.*?)```");
    private static final int CALLS = 512;
    private static final Due due = new Due();

    private FaceTest() {
    }

    public static void main(String[] args) throws IOException {
        Matcher m = FACE.matcher(Files.readString(Path.of("../shared/DOC.md")));
        String face = m.find() ? m.group(1) : "";
        String source = Files.readString(Path.of("src/main/java/UnreadyLead.java")).replaceAll("\\s+", " ");
        Set<String> want = new TreeSet<>();
        for (String line : face.split("\n")) {
            if (!line.isBlank() && !line.equals("}")) {
                due.same("the source says " + line, source.contains(asWritten(line.strip())) ? 1 : 0, 1);
            }
            if (line.startsWith("    public ")) {
                want.add(plain(line.strip()));
            }
        }
        due.same("lines of the face", want.size(), 49);
        due.same("the face", members(), want);
        due.same("NONE", UnreadyLead.NONE, -1);
        theLastCall();
        due.close("FaceTest");
    }

    /** As a line of the face begins in the program: a method has a body there. */
    private static String asWritten(String line) {
        return line.contains("(") ? line.substring(0, line.length() - 1) + " {" : line;
    }

    /** Without the names of parameters and a constant's value, which no class file has to keep. */
    private static String plain(String line) {
        return line.replaceAll("(int|long) (\\w+)(?=[,)])", "$1").replaceAll(" = .*|;$", "");
    }

    /** All that is not private, as a line of the face would tell it. */
    private static Set<String> members() {
        Set<String> all = new TreeSet<>();
        for (Field f : UnreadyLead.class.getDeclaredFields()) {
            if (!Modifier.isPrivate(f.getModifiers())) {
                all.add(Modifier.toString(f.getModifiers()) + " " + f.getType().getSimpleName() + " " + f.getName());
            }
        }
        for (Constructor<?> k : UnreadyLead.class.getDeclaredConstructors()) {
            all.add(Modifier.toString(k.getModifiers()) + " UnreadyLead" + listed(k.getParameterTypes(), "(", ")")
                + listed(k.getExceptionTypes(), " throws ", ""));
        }
        for (Method m : UnreadyLead.class.getDeclaredMethods()) {
            if (!Modifier.isPrivate(m.getModifiers())) {
                all.add(Modifier.toString(m.getModifiers()) + " " + m.getReturnType().getSimpleName() + " " + m.getName()
                    + listed(m.getParameterTypes(), "(", ")") + listed(m.getExceptionTypes(), " throws ", ""));
            }
        }
        return all;
    }

    /** Of no types nothing is told but brackets. */
    private static String listed(Class<?>[] types, String ahead, String behind) {
        StringBuilder b = new StringBuilder();
        for (Class<?> type : types) {
            b.append(b.length() == 0 ? "" : ", ").append(type.getSimpleName());
        }
        return b.length() == 0 && behind.isEmpty() ? "" : ahead + b + behind;
    }

    /** Nothing wears out on the way: the 512th call is answered as it is due. */
    private static void theLastCall() {
        UnreadyLead asked = new UnreadyLead();
        for (int i = 1; i < CALLS; i++) {
            asked.caught();
        }
        due.same("512th call, caught()", asked.caught(), -1);

        UnreadyLead refused = new UnreadyLead();
        for (int i = 1; i < CALLS; i++) {
            due.refuses("call " + i + ", told(12)", IllegalArgumentException.class, () -> refused.told(12));
        }
        due.same("512th call, status(1)", refused.status(1), CALLS - 1);

        UnreadyLead fed = new UnreadyLead();
        for (int i = 1; i < CALLS; i++) {
            due.same("call " + i + ", feed()", fed.feed(0, 0, 0, 0, i), i <= 30 ? 20 * i : -1);
        }
        due.same("512th call, count(1)", fed.count(1), 600);

        UnreadyLead worked = Due.of("person 0 0;task 200;");
        int calls = 2;
        while (calls + 6 < CALLS) {
            due.same("call " + calls + ", a work", Due.work(worked, "come 0;again 60[hour;];"), 61);
            due.same("its steps", worked.told(3) * 1000 + worked.task(0, 1), 12200);
            due.same("undo", worked.undo(), 0);
            calls += 6;
        }
        due.same("told(2) behind " + calls + " calls", worked.told(2), 0);

        UnreadyLead folded = new UnreadyLead();
        folded.bag(7, 3, 0);
        for (int i = 2; i < CALLS; i++) {
            folded.fold(7);
        }
        due.same("512th call, fold(7)", folded.fold(7), CALLS - 1);
    }
}

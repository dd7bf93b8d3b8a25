import java.io.IOException;
import java.lang.reflect.Constructor;
import java.lang.reflect.Field;
import java.lang.reflect.Method;
import java.lang.reflect.Modifier;
import java.nio.file.Files;
import java.nio.file.Path;
import java.util.ArrayList;
import java.util.Arrays;
import java.util.HashSet;
import java.util.List;
import java.util.Set;
import java.util.regex.Matcher;
import java.util.regex.Pattern;

/** What can be seen from outside of the rules of LANGUAGE.md; run from the project's folder. */
public final class LanguageTest {
    private static final String[] FACE = {"feed 5", "federation 1", "law 1", "work 1", "book 1", "fault 0", "undo 0", "told 1",
        "person 2", "task 2", "readiness 2", "would 8", "caught 0", "next 1", "hours 1", "waits 1", "ends 1", "plan 1",
        "gives 2", "ahead 2", "fits 0", "look 1", "waiters 3", "found 4", "soup 3", "readiest 1", "open 0", "left 1",
        "alike 1", "busy 1", "rank 1", "fresh 0", "quickest 1", "decade 4", "span 6", "bag 3", "drop 1", "kind 1", "wear 1",
        "fold 1", "mark 3", "read 2", "copy 5", "image 0", "restore 0", "status 1", "count 1"};

    private static final String[] FORBIDDEN = {"->", "::", "\\bsynchronized\\b", "\\bassert\\b", "\\bfinally\\b", "\\bcatch\\b",
        "\\btry\\b", "Exact\\b", "\\bgetMessage\\b", "\\bhashCode\\b", "\\btoString\\b", "\\bSystem\\.(?!arraycopy)", "\\bRandom\\b",
        "\\bThread\\b", "\\bdouble\\b", "\\bfloat\\b", "\\bstatic \\{", "\\bObject\\b", "\\bfor \\(;;\\)", "\\bwhile \\(true\\)"};

    private static final Due due = new Due();

    private LanguageTest() {
    }

    public static void main(String[] args) throws IOException {
        face();
        inside();
        String source = Files.readString(Path.of("src/main/java/UnreadyLead.java"));
        String code = source.replaceAll("(?s)/\\*.*?\\*/", "").replaceAll("//[^\n]*", "").replaceAll("\"[^\"\n]*\"", "\"\"");
        for (String word : FORBIDDEN) {
            Matcher m = Pattern.compile(word).matcher(code);
            due.same("the source has " + word, m.find() ? 1 : 0, 0);
        }
        Matcher imports = Pattern.compile("(?m)^import .*$").matcher(code);
        int many = 0;
        while (imports.find()) {
            many++;
            due.same(imports.group(), imports.group().equals("import java.util.NoSuchElementException;") ? 1 : 0, 1);
        }
        due.same("imports", many, 1);
        lengths(source);
        due.close("LanguageTest");
    }

    private static void face() {
        Class<?> c = UnreadyLead.class;
        due.same("public and final", c.getModifiers(), Modifier.PUBLIC | Modifier.FINAL);
        Set<String> got = new HashSet<>();
        for (Method m : c.getDeclaredMethods()) {
            if (!Modifier.isPrivate(m.getModifiers())) {
                got.add(m.getName() + " " + m.getParameterCount());
                due.same("public " + m.getName(), m.getModifiers(), Modifier.PUBLIC);
                due.same("type of " + m.getName(), m.getReturnType() == (m.getName().equals("found") ? long.class : int.class) ? 1 : 0, 1);
            }
        }
        due.same("the methods of the face", got.equals(new HashSet<>(Arrays.asList(FACE))) ? 1 : 0, 1);
        for (Field f : c.getDeclaredFields()) {
            due.same("field " + f.getName(), Modifier.isPrivate(f.getModifiers()) || f.getName().equals("NONE") ? 1 : 0, 1);
            due.same("field " + f.getName() + " is final", Modifier.isFinal(f.getModifiers()) ? 1 : 0, 1);
        }
        for (Constructor<?> k : c.getDeclaredConstructors()) {
            due.same("constructor", k.getParameterCount() * 10 + k.getModifiers(), Modifier.PUBLIC);
        }
    }

    private static void inside() {
        List<Class<?>> classes = new ArrayList<>(Arrays.asList(UnreadyLead.class.getDeclaredClasses()));
        due.same("classes in the file", classes.size() < 13 ? 1 : 0, 1);
        Set<String> names = new HashSet<>();
        for (String f : FACE) {
            names.add(f.substring(0, f.indexOf(' ')));
        }
        classes.add(UnreadyLead.class);
        for (Class<?> c : classes) {
            int fields = 0;
            for (Field f : c.getDeclaredFields()) {
                boolean isStatic = Modifier.isStatic(f.getModifiers());
                fields += isStatic ? 0 : 1;
                due.same(c + " " + f.getName() + " static and not final", isStatic && !Modifier.isFinal(f.getModifiers()) ? 1 : 0, 0);
            }
            due.same("fields of " + c, fields <= 20 ? 1 : 0, 1);
            for (Method m : c.getDeclaredMethods()) {
                boolean ofFace = c == UnreadyLead.class && Modifier.isPublic(m.getModifiers());
                due.same(c + " " + m.getName() + " bears a name of the face", !ofFace && names.contains(m.getName()) ? 1 : 0, 0);
                due.same(c + " " + m.getName() + " parameters", m.getParameterCount() <= 7 || m.getName().equals("would") ? 1 : 0, 1);
            }
            if (c != UnreadyLead.class) {
                int modifiers = c.getModifiers() & (Modifier.STATIC | Modifier.PRIVATE);
                due.same(c + " is private and static", modifiers, Modifier.STATIC | Modifier.PRIVATE);
            }
        }
    }

    /** A method ends where a line closes it at the depth at which it began. */
    private static void lengths(String source) {
        String[] lines = source.split("\n");
        for (int i = 0; i < lines.length; i++) {
            Matcher m = Pattern.compile("^(    |        )(\\w.*)?\\) .*\\{$|^(    |        )\\w.*\\)( throws .*)? \\{$").matcher(lines[i]);
            if (m.matches()) {
                String indent = lines[i].substring(0, lines[i].length() - lines[i].stripLeading().length());
                int end = i;
                while (end < lines.length && !lines[end].equals(indent + "}")) {
                    end++;
                }
                due.same("length of \"" + lines[i].strip() + "\"", end - i < 60 ? 1 : 0, 1);
            }
        }
    }
}

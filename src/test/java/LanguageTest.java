import java.io.IOException;
import java.lang.reflect.Field;
import java.lang.reflect.Method;
import java.lang.reflect.Modifier;
import java.nio.file.Files;
import java.nio.file.Path;
import java.util.ArrayList;
import java.util.List;
import java.util.Set;
import java.util.TreeSet;
import java.util.regex.Matcher;
import java.util.regex.Pattern;

/** The rules of LANGUAGE.md that can be seen from the class and its source; FaceTest looks at rules 1 and 6. */
public final class LanguageTest {
    private static final Checks CHECKS = new Checks("LanguageTest");
    private static final Path PROGRAM = Path.of("src/main/java/RingDevices.java");
    private static final Set<String> LIBRARY = Set.of("Arrays.fill", "Integer.bitCount", "Math.min", "NAME.length", "NAME.charAt");

    public static void main(String[] args) throws IOException {
        List<Class<?>> classes = new ArrayList<>(List.of(RingDevices.class.getDeclaredClasses()));
        classesInside(classes);
        classes.add(RingDevices.class);
        names(classes);
        fields(classes);
        List<String> lines = Files.readAllLines(PROGRAM);
        imports(lines);
        methodsAreShort(lines);
        library(String.join("\n", lines));
        CHECKS.end();
    }

    private static void holds(String rule, boolean held) {
        CHECKS.due(rule, held ? 1 : 0, 1);
    }

    /** Rules 2 and 11. */
    private static void classesInside(List<Class<?>> inside) {
        holds("rule 11: at most twelve classes", inside.size() + 1 <= 12);
        for (Class<?> c : inside) {
            holds("rule 2: " + c.getName() + " is static", Modifier.isStatic(c.getModifiers()));
            holds("rule 1: " + c.getName() + " is not public", !Modifier.isPublic(c.getModifiers()) && !Modifier.isProtected(c.getModifiers()));
            holds("rule 2: " + c.getName() + " has no class inside", c.getDeclaredClasses().length == 0);
        }
    }

    /** Rules 1 and 11: no name of the face is a private method's, or a method's of a class inside. */
    private static void names(List<Class<?>> classes) {
        Set<String> face = new TreeSet<>();
        for (Method m : RingDevices.class.getDeclaredMethods()) {
            if (Modifier.isPublic(m.getModifiers())) {
                face.add(m.getName());
            }
        }
        for (Class<?> c : classes) {
            for (Method m : c.getDeclaredMethods()) {
                boolean public_ = c == RingDevices.class && Modifier.isPublic(m.getModifiers());
                holds("rule 1: the name of " + m, public_ || !face.contains(m.getName()));
                holds("rule 11: the parameters of " + m, m.getParameterCount() <= 7);
            }
        }
    }

    /** Rules 3, 5 and 11. */
    private static void fields(List<Class<?>> classes) {
        Set<Class<?>> constants = Set.of(int.class, long.class, boolean.class, char.class, String.class);
        for (Class<?> c : classes) {
            int own = 0;
            for (Field f : c.getDeclaredFields()) {
                if (Modifier.isStatic(f.getModifiers())) {
                    holds("rule 5: " + f, Modifier.isFinal(f.getModifiers()) && constants.contains(f.getType()));
                } else {
                    own++;
                    Class<?> type = f.getType().isArray() ? f.getType().getComponentType() : f.getType();
                    holds("rule 3: " + f, type.isPrimitive() || classes.contains(type));
                }
            }
            holds("rule 11: the fields of " + c.getName(), own <= 20);
        }
    }

    /** Rule 4. */
    private static void imports(List<String> lines) {
        for (String line : lines) {
            holds("rule 4: " + line, !line.startsWith("import ") || line.equals("import java.util.Arrays;"));
        }
    }

    /** Rule 4: a call on a name that begins with a capital is the library's, or of a constant. */
    private static void library(String source) {
        Matcher calls = Pattern.compile("\\b([A-Z]\\w*\\.\\w+)\\(").matcher(source);
        int seen = 0;
        while (calls.find()) {
            seen++;
            holds("rule 4: " + calls.group(1), LIBRARY.contains(calls.group(1)));
        }
        holds("rule 4: calls of the library were found", seen > 0);
    }

    /** Rule 11: some sixty lines; a method ends with a brace where it began. */
    private static void methodsAreShort(List<String> lines) {
        int longest = 0;
        for (int from = 0; from < lines.size(); from++) {
            Matcher begins = Pattern.compile("^( {4}| {8})[^ /*}@].*\\) \\{$").matcher(lines.get(from));
            int to = from + 1;
            while (begins.matches() && to < lines.size() && !lines.get(to).equals(begins.group(1) + "}")) {
                to++;
            }
            longest = Math.max(longest, to - from);
        }
        holds("rule 11: a method of " + longest + " lines", longest > 2 && longest <= 60);
    }
}

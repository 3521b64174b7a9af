import java.io.IOException;
import java.lang.reflect.Constructor;
import java.lang.reflect.Field;
import java.lang.reflect.Method;
import java.lang.reflect.Modifier;
import java.nio.file.Files;
import java.nio.file.Path;
import java.util.List;
import java.util.regex.Matcher;
import java.util.regex.Pattern;
import java.util.stream.Collectors;
import java.util.stream.Stream;

/** README.md tells every call and every constant, its examples answer what it says, and it names every test. */
public final class ReadmeTest {
    private static final Checks CHECKS = new Checks("ReadmeTest");
    private static final Pattern EXAMPLES = Pattern.compile("(?s)```java\n(.*?)```");
    private static final Pattern CALL = Pattern.compile("x\\.(\\w+)\\(([^)]*)\\); +// (-?\\w+)(:.*)?");
    private static final String NEW_OBJECT = "RingDevices x = new RingDevices();";

    public static void main(String[] args) throws IOException, ReflectiveOperationException {
        String readme = Files.readString(Path.of("README.md"));
        everyCallIsTold(readme);
        everyConstantIsTold(readme);
        everyExampleIsTrue(readme);
        everyTestIsNamed(readme);
        howTheTestsAreRun(readme);
        CHECKS.end();
    }

    private static void stands(String readme, String text) {
        CHECKS.due("README.md says " + text, readme.contains(text) ? 1 : 0, 1);
    }

    private static List<Method> face() {
        return Stream.of(RingDevices.class.getDeclaredMethods()).filter(m -> Modifier.isPublic(m.getModifiers()))
            .collect(Collectors.toList());
    }

    private static Method named(String name) {
        return face().stream().filter(m -> m.getName().equals(name)).findFirst().orElse(null);
    }

    /** Each has a row of its own that begins with the promise's number; the names of parameters are the document's. */
    private static void everyCallIsTold(String readme) throws IOException {
        for (Constructor<?> c : RingDevices.class.getConstructors()) {
            stands(readme, "| 1 | `" + c.getName() + "()` |");
        }
        for (Method m : face()) {
            String types = Stream.of(m.getParameterTypes()).map(t -> t.getName() + " \\w+").collect(Collectors.joining(", "));
            Pattern row = Pattern.compile("(?m)^\\| (\\d+) \\| `(int " + m.getName() + "\\(" + types + "\\))` \\| .*[^| ].* \\|$");
            Matcher found = row.matcher(readme);
            boolean told = found.find();
            CHECKS.due("README.md has a row for " + m.getName(), told ? 1 : 0, 1);
            Path document = Path.of("../shared/DOC.md");
            if (told && Files.exists(document)) {
                String promise = "## Promise " + found.group(1) + ": " + m.getName() + "\n\n`" + found.group(2) + "`:";
                CHECKS.due("the document has " + promise, Files.readString(document).contains(promise) ? 1 : 0, 1);
            }
        }
        CHECKS.due("how many calls README.md was asked for", face().size(), 18);
    }

    private static void everyConstantIsTold(String readme) throws IllegalAccessException {
        for (Field f : RingDevices.class.getFields()) {
            stands(readme, "| `" + f.getName() + "` | " + f.getInt(null) + " |");
        }
    }

    /** Every line of an example is a new object, or a call with what it answers; none is left out unseen. */
    private static void everyExampleIsTrue(String readme) throws ReflectiveOperationException {
        Matcher examples = EXAMPLES.matcher(readme);
        int played = 0;
        while (examples.find()) {
            RingDevices x = null;
            for (String line : examples.group(1).split("\n")) {
                Matcher call = CALL.matcher(line);
                if (line.equals(NEW_OBJECT)) {
                    x = new RingDevices();
                } else if (x != null && call.matches() && named(call.group(1)) != null) {
                    CHECKS.due("README.md: " + line, answer(x, named(call.group(1)), call.group(2)), due(call.group(3)));
                    played++;
                } else {
                    CHECKS.due("a line that README.md has no answer for: " + line, line.isEmpty() ? 1 : 0, 1);
                }
            }
        }
        CHECKS.due("README.md has examples", played > 40 ? 1 : 0, 1);
    }

    private static int answer(RingDevices x, Method m, String arguments) throws ReflectiveOperationException {
        Class<?>[] types = m.getParameterTypes();
        String[] texts = arguments.isEmpty() ? new String[0] : arguments.split(", ");
        Object[] values = new Object[types.length];
        for (int k = 0; k < types.length && k < texts.length; k++) {
            values[k] = types[k] == boolean.class ? (Object) Boolean.valueOf(texts[k])
                : types[k] == long.class ? (Object) Long.decode(texts[k].replace("L", "")) : (Object) Integer.decode(texts[k]);
        }
        return (Integer) m.invoke(x, values);
    }

    private static int due(String text) throws ReflectiveOperationException {
        return text.matches("-?\\d+") ? Integer.parseInt(text) : RingDevices.class.getField(text).getInt(null);
    }

    /** In the last column of a table, beside what it is a test of. */
    private static void everyTestIsNamed(String readme) throws IOException {
        try (Stream<Path> files = Files.list(Path.of("src/test/java"))) {
            files.map(file -> file.getFileName().toString()).filter(name -> name.endsWith("Test.java")).sorted()
                .forEach(name -> isNamed(readme, name.replace(".java", "")));
        }
    }

    private static void isNamed(String readme, String test) {
        boolean named = Pattern.compile("(?m)^\\|[^|]+\\|[^|]*\\b" + test + "\\b[^|]*\\|$").matcher(readme).find();
        CHECKS.due("README.md says what " + test + " looks at", named ? 1 : 0, 1);
    }

    private static void howTheTestsAreRun(String readme) {
        stands(readme, "```sh\n.ci/run\n```");
        stands(readme, "&& java -cp out DriverTest\n```");
        stands(readme, "&& java -cp out RingDevicesRuns\n```");
    }
}

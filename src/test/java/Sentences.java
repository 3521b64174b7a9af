import java.lang.reflect.InvocationTargetException;
import java.lang.reflect.Method;
import java.util.ArrayList;
import java.util.Arrays;
import java.util.Comparator;
import java.util.List;

/** The tests of a class that each hold one sentence of the document: static methods with Holds, of one Checks. */
final class Sentences {
    private Sentences() {
    }

    static List<Method> of(Class<?> tests) {
        List<Method> found = new ArrayList<>();
        for (Method m : tests.getDeclaredMethods()) {
            if (m.isAnnotationPresent(Holds.class)) {
                found.add(m);
            }
        }
        found.sort(Comparator.comparing(Method::getName));
        return found;
    }

    /** Runs every one of them, and ends with exit code 1 if one was not held, or looked at nothing. */
    static void run(Class<?> tests) throws IllegalAccessException, InvocationTargetException {
        int broken = 0;
        int made = 0;
        for (Method m : of(tests)) {
            Holds holds = m.getAnnotation(Holds.class);
            Checks checks = new Checks(tests.getName() + "." + m.getName());
            m.setAccessible(true);
            m.invoke(null, checks);
            made += checks.made();
            if (checks.wrong() != 0 || checks.made() == 0) {
                broken++;
                System.out.println("not held: promises " + Arrays.toString(holds.promises()) + ": " + holds.words());
            }
        }
        System.out.println(tests.getName() + ": " + of(tests).size() + " sentences, " + made + " answers, " + broken + " not held");
        if (broken != 0 || made == 0) {
            System.exit(1);
        }
    }
}

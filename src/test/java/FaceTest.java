import java.lang.reflect.Constructor;
import java.lang.reflect.Field;
import java.lang.reflect.Member;
import java.lang.reflect.Method;
import java.lang.reflect.Modifier;
import java.nio.file.Files;
import java.nio.file.Path;
import java.util.Arrays;
import java.util.Set;
import java.util.TreeSet;

/** The public face is the document's and no more, and the source has none of the words that are ruled out. */
public final class FaceTest {
    private static final Checks CHECKS = new Checks("FaceTest");

    public static void main(String[] args) throws Exception {
        face();
        constants();
        words();
        CHECKS.end();
    }

    private static void face() {
        Set<String> want = new TreeSet<>(Arrays.asList(
            "RingDevices()", "start(boolean)", "reset(boolean)", "queue(int,int,int,int,int)", "run()", "poke(int,int)",
            "peek(int)", "step(int)", "arrive(int,long)", "read(int)", "write(int,long)", "send(int,long)", "post()",
            "collect(int)", "written(int)", "wire(int,int)", "disk(int,int)", "told(int,int)", "count(int)",
            "NONE", "BAD", "STRANGE", "OFF", "BROKEN"));
        Set<String> got = new TreeSet<>();
        for (Constructor<?> c : RingDevices.class.getDeclaredConstructors()) {
            keep(got, c, "RingDevices" + parameters(c.getParameterTypes()));
        }
        for (Method m : RingDevices.class.getDeclaredMethods()) {
            keep(got, m, m.getName() + parameters(m.getParameterTypes()));
            CHECKS.due("the type of " + m.getName(), Modifier.isPrivate(m.getModifiers()) || m.getReturnType() == int.class ? 1 : 0, 1);
        }
        for (Field f : RingDevices.class.getDeclaredFields()) {
            keep(got, f, f.getName());
        }
        CHECKS.due("the face is " + got + ", due is " + want + ":", got.equals(want) ? 1 : 0, 1);
        CHECKS.due("the class is final", Modifier.isFinal(RingDevices.class.getModifiers()) ? 1 : 0, 1);
    }

    private static void keep(Set<String> face, Member member, String text) {
        if (!Modifier.isPrivate(member.getModifiers())) {
            CHECKS.due(text + " is public", Modifier.isPublic(member.getModifiers()) ? 1 : 0, 1);
            face.add(text);
        }
    }

    private static String parameters(Class<?>[] types) {
        StringBuilder text = new StringBuilder("(");
        for (Class<?> type : types) {
            text.append(text.length() > 1 ? "," : "").append(type.getName());
        }
        return text.append(")").toString();
    }

    private static void constants() {
        CHECKS.due("NONE", RingDevices.NONE, -1);
        CHECKS.due("BAD", RingDevices.BAD, -2);
        CHECKS.due("STRANGE", RingDevices.STRANGE, -3);
        CHECKS.due("OFF", RingDevices.OFF, -4);
        CHECKS.due("BROKEN", RingDevices.BROKEN, -5);
    }

    private static void words() throws Exception {
        String source = Files.readString(Path.of("src/main/java/RingDevices.java"))
            .replaceAll("(?s)/\\*.*?\\*/", " ").replaceAll("//[^\n]*", " ");
        for (String word : new String[] {"throw", "throws", "try", "catch", "synchronized", "assert", "package", "Exact",
                "System.currentTimeMillis", "System.nanoTime", "Random", "Thread", "protected"}) {
            CHECKS.due("the word " + word, source.matches("(?s).*\\b" + word.replace(".", "\\.") + "\\b.*") ? 1 : 0, 0);
        }
        CHECKS.due("a lambda", source.contains("->") ? 1 : 0, 0);
        CHECKS.due("a method reference", source.contains("::") ? 1 : 0, 0);
    }
}

import java.io.IOException;
import java.lang.reflect.Method;
import java.nio.file.Files;
import java.nio.file.Path;
import java.util.ArrayList;
import java.util.Arrays;
import java.util.List;
import java.util.stream.Stream;

/**
 * The tests of *BoundsTest hold the document to the letter: what they say they hold stands in it, every word of its
 * terms and promises is held by one of them, and every promise is.
 */
public final class DocumentTest {
    private static final Checks CHECKS = new Checks("DocumentTest");
    private static final Path DOCUMENT = Path.of("../shared/DOC.md");
    private static final Path TESTS = Path.of("src/test/java");

    public static void main(String[] args) throws IOException, ClassNotFoundException {
        List<Holds> all = holds();
        everyPromiseIsHeld(all);
        if (Files.exists(DOCUMENT)) {
            everyWordIsHeld(all, termsAndPromises(Files.readString(DOCUMENT)));
        } else {
            System.out.println("DocumentTest: " + DOCUMENT + " is not here, so its words are not looked up");
        }
        CHECKS.end();
    }

    private static List<Holds> holds() throws IOException, ClassNotFoundException {
        List<String> names = new ArrayList<>();
        try (Stream<Path> files = Files.list(TESTS)) {
            files.map(file -> file.getFileName().toString()).filter(name -> name.endsWith("BoundsTest.java")).sorted()
                .forEach(name -> names.add(name.substring(0, name.length() - ".java".length())));
        }
        List<Holds> all = new ArrayList<>();
        for (String name : names) {
            for (Method m : Sentences.of(Class.forName(name))) {
                all.add(m.getAnnotation(Holds.class));
            }
        }
        return all;
    }

    private static void everyPromiseIsHeld(List<Holds> all) {
        for (int promise = 1; promise <= 19; promise++) {
            int number = promise;
            boolean held = all.stream().anyMatch(h -> Arrays.stream(h.promises()).anyMatch(p -> p == number));
            CHECKS.due("promise " + promise + " is held by a test", held ? 1 : 0, 1);
        }
    }

    /** All from the terms on that is a sentence: no headings, no fences, no signatures. */
    private static String termsAndPromises(String document) {
        int from = document.indexOf("## Terms");
        int to = document.indexOf("## Not promised");
        CHECKS.due("the document has terms and promises", from >= 0 && to > from ? 1 : 0, 1);
        return document.substring(Math.max(from, 0), Math.max(to, Math.max(from, 0)))
            .replaceAll("(?m)^(## |====).*$", " ").replaceAll("(?m)^```.*$", " ").replaceAll("`[^`]*`:", " ").replaceAll("\\s+", " ");
    }

    private static void everyWordIsHeld(List<Holds> all, String text) {
        boolean[] held = new boolean[text.length()];
        for (Holds h : all) {
            int at = text.indexOf(h.words());
            CHECKS.due("it stands in the document: " + h.words(), at >= 0 ? 1 : 0, 1);
            if (at >= 0) {
                Arrays.fill(held, at, at + h.words().length(), true);
            }
        }
        StringBuilder left = new StringBuilder();
        for (int k = 0; k < held.length; k++) {
            left.append(held[k] ? '\n' : text.charAt(k));
        }
        for (String words : left.toString().split("\n+")) {
            CHECKS.due("words that no test holds: " + words, words.isBlank() ? 1 : 0, 1);
        }
    }
}

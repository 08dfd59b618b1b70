import java.io.IOException;
import java.lang.reflect.Method;
import java.lang.reflect.Modifier;
import java.nio.file.Files;
import java.nio.file.Path;
import java.util.ArrayList;
import java.util.LinkedHashMap;
import java.util.List;
import java.util.Map;
import java.util.stream.Stream;

/**
 * Holds the tests' sentences against the document: what a test quotes stands there, and each word of the
 * Terms, of the constants and of the Promises is quoted by some test.
 */
public final class SentencesTest {
    private static final Path DOCUMENT = Path.of("../shared/DOC.md");

    public static void main(String[] args) throws IOException, ClassNotFoundException {
        List<Method> tests = tests();
        Check.due("tests that quote a sentence", tests.size() > 100, true);
        for (Method test : tests) {
            Check.due(test + " is static", Modifier.isStatic(test.getModifiers()), true);
        }
        if (Files.exists(DOCUMENT)) {
            hold(tests, sections());
        } else {
            System.out.println("no " + DOCUMENT + " here: the sentences are not held against it");
        }
        Check.end();
    }

    private static List<Method> tests() throws IOException, ClassNotFoundException {
        List<Method> found = new ArrayList<>();
        List<String> names;
        try (Stream<Path> files = Files.list(Path.of("src/test/java"))) {
            names = files.map(f -> f.getFileName().toString()).filter(f -> f.endsWith("Test.java")).sorted().toList();
        }
        for (String name : names) {
            found.addAll(Sentences.in(Class.forName(name.replace(".java", ""))));
        }
        return found;
    }

    /** The text of each part of the document, by the names that @Says has for them. */
    private static Map<String, StringBuilder> sections() throws IOException {
        Map<String, StringBuilder> sections = new LinkedHashMap<>();
        String now = "";
        for (String line : Files.readAllLines(DOCUMENT)) {
            if (line.startsWith("## ")) {
                now = line.replaceFirst("## ", "").replaceFirst(":.*", "");
            } else if (line.matches("(I|II|III|IV|V)\\. .*")) {
                now = "Term " + line.replaceFirst("\\..*", "");
                line = line.replaceFirst("\\w+\\. ", "");
            } else if (line.startsWith("The constants: ")) {
                now = "Constants";
                line = line.substring(15);
            } else if (line.startsWith("Ahead of the calls ")) {
                now = "";
            }
            if (now.startsWith("Promise ")) {
                line = line.replaceFirst("^`[^`]*`: ", "");
            }
            if (!line.startsWith("## ") && !line.startsWith("```")) {
                sections.computeIfAbsent(now, k -> new StringBuilder()).append(line).append('\n');
            }
        }
        return sections;
    }

    private static void hold(List<Method> tests, Map<String, StringBuilder> sections) {
        for (Method test : tests) {
            Says says = test.getAnnotation(Says.class);
            for (String words : says.words()) {
                Check.due(test.getName() + ": " + says.at() + " says \"" + words + "\"", cross(sections.get(says.at()), words), true);
            }
        }
        for (Map.Entry<String, StringBuilder> section : sections.entrySet()) {
            String name = section.getKey();
            if (name.startsWith("Term ") || name.startsWith("Promise ") || name.equals("Constants")) {
                String left = section.getValue().toString().replaceAll("[^A-Za-z0-9]+", " ").trim();
                Check.due("words of " + name + " that no test quotes", left, name.equals("Term I") ? "BOUNDS" : "");
            }
        }
    }

    /** Crosses out the words where they stand, crossed out or not; false if they don't. */
    private static boolean cross(StringBuilder section, String words) {
        if (section == null) {
            return false;
        }
        // a crossed letter keeps its length, so that a place found in the whole text is the place here
        String whole = WHOLE.computeIfAbsent(section, s -> s.toString());
        int at = whole.indexOf(words);
        if (at < 0) {
            return false;
        }
        for (int i = at; i < at + words.length(); i++) {
            section.setCharAt(i, ' ');
        }
        return true;
    }

    private static final Map<StringBuilder, String> WHOLE = new java.util.IdentityHashMap<>();
}

import java.io.IOException;
import java.lang.reflect.Method;
import java.nio.file.Files;
import java.nio.file.Path;
import java.util.regex.Matcher;
import java.util.regex.Pattern;

/** What README.md shows: its example's calls are made, its way to tell a text is used, and each call is named. */
public final class ReadmeTest {
    private static final Pattern CALL = Pattern.compile("desk\\.(\\w+)\\(([^)]*)\\); +// (-?\\d+|true|false)\\b.*");
    private static final Pattern TELL = Pattern.compile("tell\\(desk, \"([^\"]*)\"\\); +// (-?\\d+)\\b.*");

    public static void main(String[] args) throws IOException, ReflectiveOperationException {
        String page = Files.readString(Path.of("README.md"));
        example(page);
        wayToTell(page);
        allCallsNamed(page);
        allTestsNamed(page);
        Check.end();
    }

    // As README.md has it, word by word.
    static int tell(HalfGates desk, String text) {
        int[] f = new int[5];
        for (int i = 0; i < (text.length() + 19) / 20 * 20; i++) {
            int c = i < text.length() ? text.charAt(i) : ' ';
            f[i % 20 / 4] = f[i % 20 / 4] << 8 | c;
            if (i % 20 == 19) desk.feed(f[0], f[1], f[2], f[3], f[4]);
        }
        return desk.program(text.length());
    }

    private static void example(String page) throws ReflectiveOperationException {
        HalfGates desk = new HalfGates();
        int made = 0;
        for (String line : page.split("\n")) {
            Matcher call = CALL.matcher(line);
            Matcher told = TELL.matcher(line);
            if (call.matches()) {
                made++;
                Check.due(line, String.valueOf(answer(desk, call.group(1), call.group(2))), call.group(3));
            } else if (told.matches()) {
                made++;
                Check.due(line, tell(desk, told.group(1)), Integer.parseInt(told.group(2)));
            } else {
                Check.due("a call without its answer: " + line, line.matches("(desk\\.|tell\\(desk).*"), false);
            }
        }
        Check.due("calls in the example, twenty at least", made >= 20, true);
    }

    /** The call by its name; in the example all that is given is a whole number. */
    private static Object answer(HalfGates desk, String name, String given) throws ReflectiveOperationException {
        String[] parts = given.isEmpty() ? new String[0] : given.split(", ");
        Class<?>[] kinds = new Class<?>[parts.length];
        Object[] values = new Object[parts.length];
        for (int i = 0; i < parts.length; i++) {
            kinds[i] = int.class;
            values[i] = Integer.valueOf(parts[i]);
        }
        return HalfGates.class.getMethod(name, kinds).invoke(desk, values);
    }

    private static void wayToTell(String page) throws IOException {
        String own = Files.readString(Path.of("src/test/java/ReadmeTest.java"));
        int from = page.indexOf("static int tell(");
        int to = page.indexOf("```", from);
        Check.due("README.md has its way to tell a text", from >= 0 && to > from, true);
        if (from >= 0 && to > from) {
            String shown = page.substring(from, to).strip().indent(4);
            Check.due("it is the one used here", own.contains(shown), true);
        }
    }

    private static void allCallsNamed(String page) {
        for (Method m : HalfGates.class.getDeclaredMethods()) {
            if (java.lang.reflect.Modifier.isPublic(m.getModifiers())) {
                Pattern row = Pattern.compile("(?m)^\\|[^|]*`" + m.getName() + "\\((\\w*(, \\w+)*)\\)`");
                Matcher named = row.matcher(page);
                Check.due(m.getName() + " has a row in README.md", named.find(), true);
                int given = named.reset().find() && !named.group(1).isEmpty() ? named.group(1).split(", ").length : 0;
                Check.due(m.getName() + " is given so many there", given, m.getParameterCount());
            }
        }
    }

    private static void allTestsNamed(String page) throws IOException {
        try (var files = Files.list(Path.of("src/test/java"))) {
            for (String name : files.map(p -> p.getFileName().toString()).sorted().toList()) {
                if (name.endsWith("Test.java")) {
                    Check.due(name + " is named in README.md", page.contains("`" + name.replace(".java", "") + "`"), true);
                }
            }
        }
    }
}

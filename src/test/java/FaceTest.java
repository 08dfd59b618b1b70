import java.io.IOException;
import java.lang.reflect.Constructor;
import java.lang.reflect.Field;
import java.lang.reflect.Method;
import java.lang.reflect.Modifier;
import java.nio.file.Files;
import java.nio.file.Path;
import java.util.Arrays;
import java.util.List;
import java.util.Set;
import java.util.TreeSet;
import java.util.regex.Matcher;
import java.util.regex.Pattern;

/** The public face as the document has it, and the rules of LANGUAGE.md that can be seen in the class or its text. */
public final class FaceTest {
    private static final Set<String> FACE = new TreeSet<>(List.of(
        "boolean set(int,int,int)", "int feed(int,int,int,int,int)", "int program(int)", "int fault()", "int where()",
        "boolean put(int,int)", "int get(int)", "int block(int,int)", "int ticks(int)", "int gates(int)",
        "int moved(int)", "int room(int)", "int moves(int,int)", "int quickest(int)", "int fewest(int)",
        "int turn(int,int)", "int edges()", "int edge(int)", "int run(int)", "boolean once(int,boolean)",
        "int changes(int,int)", "int still(int)", "int name(int,int)", "int count(int)", "int trouble()"));

    public static void main(String[] args) throws IOException, IllegalAccessException {
        members();
        nested();
        source();
        noNewObjects();
        room();
        Check.end();
    }

    private static String face(Method m) {
        StringBuilder s = new StringBuilder(m.getReturnType().getName()).append(' ').append(m.getName()).append('(');
        for (Class<?> p : m.getParameterTypes()) {
            s.append(s.charAt(s.length() - 1) == '(' ? "" : ",").append(p.getName());
        }
        return s.append(')').toString();
    }

    private static void members() {
        Set<String> found = new TreeSet<>();
        Set<String> publicNames = new TreeSet<>();
        for (Method m : HalfGates.class.getDeclaredMethods()) {
            if (Modifier.isPublic(m.getModifiers())) {
                found.add(face(m));
                publicNames.add(m.getName());
                Check.due(m + " is not static", Modifier.isStatic(m.getModifiers()), false);
            }
        }
        Check.due("the face " + found, found.equals(FACE), true);
        for (Method m : HalfGates.class.getDeclaredMethods()) {
            boolean open = Modifier.isPublic(m.getModifiers());
            Check.due(m + " is public or private", open || Modifier.isPrivate(m.getModifiers()), true);
            Check.due(m + " has its name alone", !open && publicNames.contains(m.getName()), false);
        }
        Constructor<?>[] made = HalfGates.class.getDeclaredConstructors();
        Check.due("constructors", made.length, 1);
        Check.due("its parameters", made[0].getParameterCount(), 0);
        Check.due("it is public", Modifier.isPublic(made[0].getModifiers()), true);
        int classModifiers = HalfGates.class.getModifiers();
        Check.due("public and final", Modifier.isPublic(classModifiers) && Modifier.isFinal(classModifiers), true);
        for (Field f : HalfGates.class.getDeclaredFields()) {
            boolean none = f.getName().equals("NONE");
            Check.due(f + " is private", Modifier.isPrivate(f.getModifiers()), !none);
            Check.due(f + " is no open static", Modifier.isStatic(f.getModifiers()) && !Modifier.isFinal(f.getModifiers()), false);
        }
    }

    private static void nested() {
        Class<?>[] inside = HalfGates.class.getDeclaredClasses();
        Check.due("classes inside, at most eleven", inside.length <= 11, true);
        Set<String> publicNames = new TreeSet<>();
        for (Method m : HalfGates.class.getMethods()) {
            publicNames.add(m.getName());
        }
        for (Class<?> c : inside) {
            Check.due(c + " is static", Modifier.isStatic(c.getModifiers()), true);
            Check.due(c + " is not public", Modifier.isPublic(c.getModifiers()), false);
            long own = Arrays.stream(c.getDeclaredFields()).filter(f -> !Modifier.isStatic(f.getModifiers())).count();
            Check.due(c + " has at most twenty fields", own <= 20, true);
            for (Method m : c.getDeclaredMethods()) {
                Check.due(m + " has its name alone", publicNames.contains(m.getName()), false);
                Check.due(m + " has at most seven parameters", m.getParameterCount() <= 7, true);
            }
        }
    }

    private static void source() throws IOException {
        String text = Files.readString(Path.of("src/main/java/HalfGates.java"));
        String code = text.replaceAll("(?s)/\\*.*?\\*/", "").replaceAll("//[^\n]*", "");
        String[] barred = {"->", "::", "\\bcatch\\b", "\\bfinally\\b", "\\bassert\\b", "\\bsynchronized\\b", "Exact\\b",
            "\\bpackage\\b", "MAX_VALUE", "MIN_VALUE", "\\bprotected\\b", "\\bString\\b", "\\bnull\\b", "\\t"};
        for (String b : barred) {
            Check.due("the text has no " + b, Pattern.compile(b).matcher(code).find(), false);
        }
        Check.due("the one import", code.split("\\bimport\\b", -1).length - 1, 1);
        Check.due("the one throw", code.split("\\bthrow\\b", -1).length - 1, 1);
        Matcher calls = Pattern.compile("\\b([A-Z][A-Za-z]+)\\.([a-zA-Z]+)").matcher(code.replaceFirst("import .*?;", ""));
        Set<String> library = new TreeSet<>(List.of("Math.max", "Math.min", "Integer.bitCount", "System.arraycopy"));
        while (calls.find()) {
            Check.due("the library's " + calls.group(), library.contains(calls.group()), true);
        }
        for (String method : code.split("\n    }\n|\n        }\n")) {
            Check.due("a method of some sixty lines at most", method.split("\n").length <= 75, true);
        }
    }

    /** All rows are made in the constructor: the text makes objects and arrays in fields alone. */
    private static void noNewObjects() throws IOException {
        for (String line : Files.readAllLines(Path.of("src/main/java/HalfGates.java"))) {
            if (line.contains("new ") && !line.contains("throw new")) {
                Check.due("made in a field: " + line, line.matches("\\s+(private )?(final )?[A-Za-z\\[\\]]+ \\w+ = new .*;"), true);
            }
        }
    }

    /** A run has room for some 7.3 million fields and elements in all: a desk is to take a small part of it. */
    private static void room() throws IllegalAccessException {
        int[] found = new int[2];
        count(new HalfGates(), found);
        Check.due("objects and arrays of a desk, at most 100 (" + found[0] + ")", found[0] <= 100, true);
        Check.due("fields and elements of a desk, at most 30,000 (" + found[1] + ")", found[1] <= 30000, true);
    }

    /** No two fields hold the same object, so each is met once. */
    private static void count(Object of, int[] found) throws IllegalAccessException {
        found[0]++;
        if (of instanceof int[] row) {
            found[1] += row.length;
            return;
        }
        for (Field f : of.getClass().getDeclaredFields()) {
            if (!Modifier.isStatic(f.getModifiers())) {
                found[1]++;
                f.setAccessible(true);
                if (!f.getType().isPrimitive()) {
                    count(f.get(of), found);
                }
            }
        }
    }
}

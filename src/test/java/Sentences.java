import java.lang.reflect.InvocationTargetException;
import java.lang.reflect.Method;
import java.util.ArrayList;
import java.util.Comparator;
import java.util.List;

/** Runs the tests of a class that bear @Says: each has its sentence told with every answer that isn't due. */
final class Sentences {
    private Sentences() {
    }

    static List<Method> in(Class<?> tests) {
        List<Method> found = new ArrayList<>();
        for (Method m : tests.getDeclaredMethods()) {
            if (m.isAnnotationPresent(Says.class)) {
                found.add(m);
            }
        }
        found.sort(Comparator.comparing(Method::getName));
        return found;
    }

    static void test(Class<?> tests) {
        for (Method m : in(tests)) {
            Says says = m.getAnnotation(Says.class);
            String sentence = says.at() + " \"" + String.join(" .. ", says.words()) + "\", " + m.getName() + ": ";
            Check.begin(sentence);
            try {
                m.invoke(null);
            } catch (InvocationTargetException thrown) {
                Check.fail("threw " + thrown.getCause());
            } catch (IllegalAccessException closed) {
                Check.fail("can't be called");
            }
            Check.endOfOne();
        }
        Check.end();
    }
}

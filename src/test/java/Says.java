import java.lang.annotation.ElementType;
import java.lang.annotation.Retention;
import java.lang.annotation.RetentionPolicy;
import java.lang.annotation.Target;

/** The words of ../shared/DOC.md that a test would fail by, were they broken, and the part that they stand in. */
@Retention(RetentionPolicy.RUNTIME)
@Target(ElementType.METHOD)
@interface Says {
    /** "Term I" to "Term V" (with the text block behind it), "Promise 1" to "Promise 26", "Constants" or "What it is". */
    String at();

    String[] words();
}

import java.lang.annotation.ElementType;
import java.lang.annotation.Retention;
import java.lang.annotation.RetentionPolicy;
import java.lang.annotation.Target;

/** Which sentence of the document a test holds. */
@Retention(RetentionPolicy.RUNTIME)
@Target(ElementType.METHOD)
@interface Holds {
    int TERMS = 0;

    /** The number of the promise, or TERMS. */
    int in() default TERMS;

    /** The sentence or the part of it, word for word. */
    String says();
}

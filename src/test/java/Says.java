import java.lang.annotation.ElementType;
import java.lang.annotation.Retention;
import java.lang.annotation.RetentionPolicy;
import java.lang.annotation.Target;

/** Names the sentence of ../shared/DOC.md, or the part of one, that a test holds the class to. */
@Retention(RetentionPolicy.RUNTIME)
@Target(ElementType.METHOD)
@interface Says {
    /** The number of the promise, 0 for another part. */
    int promise() default 0;

    /** The part of the document, if it is no promise. */
    String part() default "Terms";

    /** The words as they stand there. */
    String words();
}

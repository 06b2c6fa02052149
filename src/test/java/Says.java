import java.lang.annotation.ElementType;
import java.lang.annotation.Retention;
import java.lang.annotation.RetentionPolicy;
import java.lang.annotation.Target;

/** Names the sentence of the document, or the part of it, that a test holds. */
@Retention(RetentionPolicy.RUNTIME)
@Target(ElementType.METHOD)
@interface Says {
    /** The section: "Terms", "Promise 2". */
    String in();

    /** The document's own words. */
    String text();
}

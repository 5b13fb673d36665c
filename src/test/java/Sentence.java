import java.lang.annotation.ElementType;
import java.lang.annotation.Retention;
import java.lang.annotation.RetentionPolicy;
import java.lang.annotation.Target;

/** The sentence of the document, or the part of one, that would be broken if this test failed. */
@Retention(RetentionPolicy.RUNTIME)
@Target(ElementType.METHOD)
@interface Sentence {
    /** The promise whose method shows it. */
    int promise();

    /** Its words, as DOC.md writes them, without backquotes. */
    String says();
}

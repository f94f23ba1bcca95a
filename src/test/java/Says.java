import java.lang.annotation.ElementType;
import java.lang.annotation.Retention;
import java.lang.annotation.RetentionPolicy;
import java.lang.annotation.Target;

/** The promise of the document that a test holds, and which of its words. */
@Retention(RetentionPolicy.RUNTIME)
@Target(ElementType.METHOD)
@interface Says {
    /** Stands where a promise's number would, for the section "What it is". */
    int USE = -1;

    /** The same for the section "Terms". */
    int TERMS = 0;

    int promise();

    String words();
}

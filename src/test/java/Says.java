import java.lang.annotation.Retention;
import java.lang.annotation.RetentionPolicy;

/**
 * The words of the document that a test is about, each behind its section: a promise's number,
 * a term, or "What it is", then a colon and a blank.
 */
@Retention(RetentionPolicy.RUNTIME)
@interface Says {
    String[] value();
}

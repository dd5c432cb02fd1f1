import java.lang.annotation.Retention;
import java.lang.annotation.RetentionPolicy;

/** The words of the document that a test holds: the heading that they stand under, and they themselves. */
@Retention(RetentionPolicy.RUNTIME)
@interface Says {
    String in();

    String words();
}

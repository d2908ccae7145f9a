import java.lang.annotation.ElementType;
import java.lang.annotation.Retention;
import java.lang.annotation.RetentionPolicy;
import java.lang.annotation.Target;

/** The document's own words to which a test holds the class; Sentences looks them up there. */
@Retention(RetentionPolicy.RUNTIME)
@Target(ElementType.METHOD)
@interface Says {
    String[] value();
}

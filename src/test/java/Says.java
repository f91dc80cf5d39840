import java.lang.annotation.ElementType;
import java.lang.annotation.Retention;
import java.lang.annotation.RetentionPolicy;
import java.lang.annotation.Target;

/** Words of the document, sign by sign, that a test holds the class to; SentencesTest looks that none is left out. */
@Retention(RetentionPolicy.RUNTIME)
@Target(ElementType.METHOD)
@interface Says {
    /** The promise in whose section the words stand, or 0 for the sections 'What it is' and 'Terms'. */
    int promise() default 0;

    String[] value();
}

import java.lang.annotation.ElementType;
import java.lang.annotation.Retention;
import java.lang.annotation.RetentionPolicy;
import java.lang.annotation.Target;

/** Says which sentences of the document a boundary test is for, and which promises they bind. */
@Retention(RetentionPolicy.RUNTIME)
@Target(ElementType.METHOD)
@interface Says {
    /** The promises: a sentence stands in the section of each one, or in the description. */
    int[] promise();

    /** The sentences, in the document's own words. */
    String[] sentence();
}

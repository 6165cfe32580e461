import java.lang.annotation.ElementType;
import java.lang.annotation.Retention;
import java.lang.annotation.RetentionPolicy;
import java.lang.annotation.Target;

/** Names the words of the document that a test holds: SentencesTest looks whether they stand there. */
@Retention(RetentionPolicy.RUNTIME)
@Target(ElementType.METHOD)
@interface Says {
    /** The section: "Promise 9", "Description" (ahead of its first part, or behind its last), or one of its parts, "2. Series". */
    String at();

    /** Its words, without the signs ` of the document. */
    String[] value();
}

import java.lang.annotation.ElementType;
import java.lang.annotation.Retention;
import java.lang.annotation.RetentionPolicy;
import java.lang.annotation.Target;

/** A test of one sentence of the document that names a boundary case; EdgesTest runs it. */
@Retention(RetentionPolicy.RUNTIME)
@Target(ElementType.METHOD)
@interface Edge {
    int WHAT_IT_IS = -1, TERMS = 0;

    /** The promise whose section has the sentence, or one of the sections named above. */
    int promise() default TERMS;

    /** The sentence, or as much of it as names the case, to the letter. */
    String says();
}

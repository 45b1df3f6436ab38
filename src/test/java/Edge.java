import java.lang.annotation.ElementType;
import java.lang.annotation.Retention;
import java.lang.annotation.RetentionPolicy;
import java.lang.annotation.Target;

/**
 * Marks the test of one sentence of the document that names a boundary case. Its name begins with its promise's.
 * EdgesTest runs it on the class; BrokenTest runs it on the class with the sentence broken, where it must fail.
 */
@Retention(RetentionPolicy.RUNTIME)
@Target(ElementType.METHOD)
@interface Edge {
    int promise();

    /** The sentence, or the part of it that names the case, as it stands under the promise or under the terms. */
    String words();

    /** Ways to break it, each a text of the class (told without comments, in single spaces) => what to put there. */
    String[] broken();
}

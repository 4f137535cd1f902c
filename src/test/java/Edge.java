import java.lang.annotation.Retention;
import java.lang.annotation.RetentionPolicy;

/** A boundary case that a sentence of the document names: of which promise, and in which words. */
@Retention(RetentionPolicy.RUNTIME)
@interface Edge {
    int promise();

    String says();
}

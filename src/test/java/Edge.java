import java.lang.annotation.ElementType;
import java.lang.annotation.Retention;
import java.lang.annotation.RetentionPolicy;
import java.lang.annotation.Target;

/**
 * A test of one edge: the promise that it belongs to, and the words of the document that it holds. Words from
 * several places stand with " .. " between them; EdgesTest looks all of them up.
 */
@Retention(RetentionPolicy.RUNTIME)
@Target(ElementType.METHOD)
@interface Edge {
  int promise();

  String sentence();
}

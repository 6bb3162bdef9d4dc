import java.lang.annotation.ElementType;
import java.lang.annotation.Retention;
import java.lang.annotation.RetentionPolicy;
import java.lang.annotation.Target;

/** The sentence of ../shared/DOC.md that a test holds the class to. */
@Retention(RetentionPolicy.RUNTIME)
@Target(ElementType.METHOD)
@interface Says {
  /** Where it stands: "Promise 7", or the heading of its part, as "SEASONS". */
  String at();

  /** The document's own words, the whole sentence (or the whole line of a list). */
  String words();
}

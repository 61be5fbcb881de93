import java.lang.annotation.ElementType;
import java.lang.annotation.Retention;
import java.lang.annotation.RetentionPolicy;
import java.lang.annotation.Target;

/** The words of ../shared/DOC.md that a test holds the class to. */
@Retention(RetentionPolicy.RUNTIME)
@Target(ElementType.METHOD)
@interface Says {
    /** The number of the promise that says so; 0 for the parts ahead of promise 1. */
    int promise() default 0;

    /** To the letter, and long enough to stand there once alone; line breaks aside. */
    String value();
}

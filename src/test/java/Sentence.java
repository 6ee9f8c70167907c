import java.lang.annotation.ElementType;
import java.lang.annotation.Retention;
import java.lang.annotation.RetentionPolicy;
import java.lang.annotation.Target;

/** Which promise of ../shared/DOC.md, and which words of it, a test holds the class against. */
@Retention(RetentionPolicy.RUNTIME)
@Target(ElementType.METHOD)
@interface Sentence {
    /** 0 for what stands ahead of promise 1: "What it is" and the "Description". */
    int promise();

    String words();
}

import java.util.Objects;
import java.util.concurrent.Callable;

/** Counts the answers of one test that are not as due. */
final class Answers {
    private int wrong = 0;
    private int asked = 0;
    private String sentence = "";

    /** What a call answers: its value, or the simple name of what it throws. */
    static Object of(Callable<?> call) {
        try {
            return call.call();
        } catch (Exception e) {
            return "throws." + e.getClass().getSimpleName();
        }
    }

    /** What follows tests this sentence of the document, until the next one is told. */
    void sentence(String quoted) {
        sentence = "\"" + quoted + "\": ";
    }

    void due(String call, Object want, Callable<?> made) {
        same(call, of(made), want);
    }

    void index(String call, Callable<?> made) {
        due(call, "throws.IndexOutOfBoundsException", made);
    }

    void argument(String call, Callable<?> made) {
        due(call, "throws.IllegalArgumentException", made);
    }

    void state(String call, Callable<?> made) {
        due(call, "throws.IllegalStateException", made);
    }

    void same(String call, Object got, Object want) {
        asked++;
        if (!Objects.equals(got, want)) {
            wrong++;
            if (wrong <= 50) {
                System.out.println(sentence + call + " answered " + got + ", due is " + want);
            }
        }
    }

    boolean allAsDue() {
        return wrong == 0;
    }

    /** Ends the test: with exit code 1, if an answer was wrong. */
    void end() {
        System.out.println(wrong == 0 ? asked + " answers are as due" : wrong + " of " + asked + " answers are not as due");
        if (wrong != 0) {
            System.exit(1);
        }
    }
}

import java.util.Objects;
import java.util.concurrent.Callable;

/** Counts and prints the calls whose answer is not the one that is due. */
final class Checks {
    private int made = 0;
    private int wrong = 0;

    void due(String call, Object want, Callable<?> got) {
        made++;
        Object answer = answerOf(got);
        if (!Objects.equals(want, answer)) {
            wrong++;
            System.out.println(call + ": due is " + want + ", answered " + answer);
        }
    }

    void throwsOutOfBounds(String call, Callable<?> got) {
        due(call, IndexOutOfBoundsException.class, got);
    }

    void throwsArgument(String call, Callable<?> got) {
        due(call, IllegalArgumentException.class, got);
    }

    void throwsState(String call, Callable<?> got) {
        due(call, IllegalStateException.class, got);
    }

    /** What a call returns, or the class of what it throws. */
    static Object answerOf(Callable<?> call) {
        try {
            return call.call();
        } catch (Exception thrown) {
            return thrown.getClass();
        }
    }

    void end(String name) {
        System.out.println(name + ": " + made + " checks, " + wrong + " wrong");
        if (wrong != 0 || made == 0) {
            System.exit(1);
        }
    }
}

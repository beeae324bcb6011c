import java.util.Objects;

/** Counts the answers of one test and prints those that are not due. */
final class Due {
    /** A call whose answer is a number or a boolean. */
    interface Call {
        Object answer();
    }

    private static final int MOST_PRINTED = 20;

    private int asked = 0;
    private int wrong = 0;

    /** Asks for an answer; numbers are compared by value, whether int or long. */
    void answers(String what, Object want, Call call) {
        compare(what, told(want), outcome(call));
    }

    void fails(String what, Class<? extends RuntimeException> want, Call call) {
        compare(what, thrown(want), outcome(call));
    }

    void holds(String what, boolean holds) {
        compare(what, "true", String.valueOf(holds));
    }

    void compare(String what, String want, String got) {
        asked++;
        if (!Objects.equals(want, got)) {
            wrong++;
            if (wrong <= MOST_PRINTED) {
                System.out.println(what + " answered " + got + ", due is " + want);
            }
        }
    }

    boolean isClean() {
        return wrong == 0;
    }

    /** Ends the test, with exit code 1 if an answer was wrong. */
    void close() {
        System.out.println(asked + " answers, " + wrong + " of them not as due");
        if (wrong != 0 || asked == 0) {
            System.exit(1);
        }
    }

    /** What came of a call, in words: its answer, or the exact class of what it threw. */
    static String outcome(Call call) {
        try {
            return told(call.answer());
        } catch (RuntimeException thrown) {
            return thrown(thrown.getClass());
        }
    }

    static String thrown(Class<? extends RuntimeException> kind) {
        return "throws." + kind.getSimpleName();
    }

    private static String told(Object answer) {
        return String.valueOf(answer);
    }
}

import java.util.Objects;

/** Counts the answers of one test and prints those that are not due. */
final class Due {
    /** A call whose answer is a number or a boolean. */
    interface Call {
        Object answer();
    }

    // Of one sentence: each that is broken is to be seen.
    private static final int MOST_PRINTED = 10;

    private String sentence = "";
    private int asked = 0;
    private int wrong = 0;
    private int printed = 0;

    /** Names the sentence of the document by which the answers from here on are due. */
    void by(String sentence) {
        this.sentence = sentence + " | ";
        printed = 0;
    }

    /** Runs a test; should it throw, that is told as a wrong answer, and the tests behind it are run all the same. */
    void run(Runnable test) {
        compare("a call on the way", "none", outcome(() -> {
            test.run();
            return "none";
        }));
    }

    /** Asks for an answer; numbers are compared by value, whether int or long. */
    void answers(String what, Object want, Call call) {
        compare(what, told(want), outcome(call));
    }

    void fails(String what, Class<? extends RuntimeException> want, Call call) {
        compare(what, thrown(want), outcome(call));
    }

    void holds(String what, boolean holds) {
        compare(what, "true", String.valueOf(holds));
    }

    void compare(String what, String want, String got) {
        asked++;
        if (!Objects.equals(want, got)) {
            wrong++;
            printed++;
            if (printed <= MOST_PRINTED) {
                System.out.println(sentence + what + " answered " + got + ", due is " + want);
            }
        }
    }

    boolean isClean() {
        return wrong == 0;
    }

    /** Ends the test, with exit code 1 if an answer was wrong. */
    void close() {
        System.out.println(asked + " answers, " + wrong + " of them not as due");
        if (wrong != 0 || asked == 0) {
            System.exit(1);
        }
    }

    /** What came of a call, in words: its answer, or the exact class of what it threw. */
    static String outcome(Call call) {
        try {
            return told(call.answer());
        } catch (RuntimeException thrown) {
            return thrown(thrown.getClass());
        }
    }

    static String thrown(Class<? extends RuntimeException> kind) {
        return "throws." + kind.getSimpleName();
    }

    private static String told(Object answer) {
        return String.valueOf(answer);
    }
}

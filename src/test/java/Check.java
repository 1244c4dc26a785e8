import java.util.Objects;

/** Counts the answers that are not as due, and tells them. */
final class Check {
    interface Call {
        Object run();
    }

    private String sentence = "";
    private int wrong = 0;

    /** What is checked from now on belongs to this sentence of the document. */
    void sentence(String words) {
        sentence = "\"" + words + "\": ";
    }

    void is(String what, Object got, Object due) {
        if (!Objects.equals(got, due)) {
            wrong++;
            System.out.println(sentence + what + " answered " + got + ", due is " + due);
        }
    }

    /** The very class of the exception is due, not one below it. */
    void fails(String what, Class<? extends RuntimeException> due, Call call) {
        Object got;
        try {
            got = call.run();
        } catch (RuntimeException e) {
            got = e.getClass();
        }
        is(what, got, due);
    }

    void end() {
        System.out.println(wrong == 0 ? "all answers are as due" : wrong + " answers are not as due");
        if (wrong != 0) {
            System.exit(1);
        }
    }
}

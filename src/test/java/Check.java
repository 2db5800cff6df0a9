import java.util.function.Consumer;

/** Counts and prints the answers that are not as due. */
final class Check {
    interface Call {
        void run();
    }

    private final String test;
    private String words = "";
    private int sentences;
    private int asked;
    private int wrong;

    Check(String test) {
        this.test = test;
    }

    /** The test of one sentence of the document, by its words. It may neither throw nor ask nothing. */
    void sentence(String words, Consumer<Check> held) {
        this.words = " [" + words + "]";
        int before = asked;
        try {
            held.accept(this);
        } catch (RuntimeException e) {
            tell("a call", e.toString(), "no exception");
        }
        if (asked == before) {
            tell("the test", "nothing asked", "an answer");
        }
        sentences++;
        this.words = "";
    }

    void same(String what, long got, long due) {
        asked++;
        if (got != due) {
            tell(what, String.valueOf(got), String.valueOf(due));
        }
    }

    void same(String what, double got, double due) {
        asked++;
        if (got != due) {
            tell(what, String.valueOf(got), String.valueOf(due));
        }
    }

    void same(String what, String got, String due) {
        asked++;
        if (!got.equals(due)) {
            tell(what, got, due);
        }
    }

    /** The class must be this very one: a class below it would be the machine's own, or another promise's. */
    void raises(String what, Class<? extends RuntimeException> due, Call call) {
        asked++;
        String got = "no exception";
        try {
            call.run();
        } catch (RuntimeException e) {
            got = e.getClass().getName();
        }
        if (!got.equals(due.getName())) {
            tell(what, got, due.getName());
        }
    }

    private void tell(String what, String got, String due) {
        wrong++;
        System.out.println(test + words + ": " + what + " answered " + got + ", due is " + due);
    }

    void end() {
        String of = sentences == 0 ? "" : " of " + sentences + " sentences";
        System.out.println(test + ": "
                + (wrong == 0 ? "all answers" + of + " are as due" : wrong + " answers are not as due"));
        if (wrong != 0) {
            System.exit(1);
        }
    }
}

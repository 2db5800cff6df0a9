/** Counts and prints the answers that are not as due. */
final class Check {
    interface Call {
        void run();
    }

    private final String test;
    private int wrong;

    Check(String test) {
        this.test = test;
    }

    void same(String what, long got, long due) {
        if (got != due) {
            tell(what, String.valueOf(got), String.valueOf(due));
        }
    }

    void same(String what, double got, double due) {
        if (got != due) {
            tell(what, String.valueOf(got), String.valueOf(due));
        }
    }

    void same(String what, String got, String due) {
        if (!got.equals(due)) {
            tell(what, got, due);
        }
    }

    /** The class must be this very one: a class below it would be the machine's own, or another promise's. */
    void raises(String what, Class<? extends RuntimeException> due, Call call) {
        String got = "no exception";
        try {
            call.run();
        } catch (RuntimeException e) {
            got = e.getClass().getName();
        }
        if (!got.equals(due.getName())) {
            tell(what, got, due.getName());
        }
    }

    private void tell(String what, String got, String due) {
        wrong++;
        System.out.println(test + ": " + what + " answered " + got + ", due is " + due);
    }

    void end() {
        System.out.println(test + ": " + (wrong == 0 ? "all answers are as due" : wrong + " answers are not as due"));
        if (wrong != 0) {
            System.exit(1);
        }
    }
}

/** Counts answers that are not as due, tells each, and ends a test with exit code 1 if there was one. */
final class Check {
    /** A call whose exception is looked at. */
    interface Call {
        void run();
    }

    private final String test;
    private String sentence = "";
    private int looked;
    private int wrong;

    Check(String test) {
        this.test = test;
    }

    /** What is looked at from now on is what this sentence of the document says. */
    void sentence(String quoted) {
        sentence = " [" + quoted + "]";
    }

    void equal(String what, long got, long due) {
        looked++;
        if (got != due) {
            tell(what + " answered " + got + ", due is " + due);
        }
    }

    void isTrue(String what, boolean got) {
        looked++;
        if (!got) {
            tell(what + " is not so");
        }
    }

    void text(String what, String got, String due) {
        looked++;
        if (!got.equals(due)) {
            tell(what + " answered " + got + ", due is " + due);
        }
    }

    void refusesArgument(String what, Call call) {
        text(what, outcome(call), "IllegalArgumentException");
    }

    void refusesState(String what, Call call) {
        text(what, outcome(call), "IllegalStateException");
    }

    void refusesIndex(String what, Call call) {
        text(what, outcome(call), "IndexOutOfBoundsException");
    }

    void unsupported(String what, Call call) {
        text(what, outcome(call), "UnsupportedOperationException");
    }

    /** Exactly the class is told: a subclass thrown by the machine itself is not as due. */
    static String outcome(Call call) {
        try {
            call.run();
            return "nothing";
        } catch (RuntimeException e) {
            return e.getClass().getSimpleName();
        }
    }

    boolean anyWrong() {
        return wrong != 0;
    }

    void end() {
        System.out.println(test + ": " + looked + " answers looked at, " + wrong + " not as due");
        if (wrong != 0) {
            System.exit(1);
        }
    }

    private void tell(String what) {
        wrong++;
        System.out.println(test + ": " + what + sentence);
    }
}

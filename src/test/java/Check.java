/** Counts the answers of a test that are not due, and ends it. */
final class Check {
    interface Call {
        long answer();
    }

    private final String name;
    private int answers;
    private int wrong;
    private String sentence = "";
    private int answersAhead;

    Check(String name) {
        this.name = name;
    }

    /** What is checked from here on is said by this sentence of the document. */
    void says(String nextSentence) {
        needAnswers();
        sentence = nextSentence;
        answersAhead = answers;
    }

    private void needAnswers() {
        if (!sentence.isEmpty() && answers == answersAhead) {
            tell("nothing is checked of it");
        }
    }

    void due(String what, long got, long want) {
        answers++;
        if (got != want) {
            tell(what + " answered " + got + ", due is " + want);
        }
    }

    void due(String what, boolean got, boolean want) {
        due(what, got ? 1 : 0, want ? 1 : 0);
    }

    void dueReal(String what, double got, double want) {
        answers++;
        if (got != want) {
            tell(what + " answered " + got + ", due is " + want);
        }
    }

    void dueText(String what, String got, String want) {
        answers++;
        if (!got.equals(want)) {
            tell(what + " answered " + got + ", due is " + want);
        }
    }

    void dueThrow(String what, Class<?> want, Call call) {
        dueText(what, outcome(call), "throws." + want.getSimpleName());
    }

    void badArgument(String what, Call call) {
        dueThrow(what, IllegalArgumentException.class, call);
    }

    void badState(String what, Call call) {
        dueThrow(what, IllegalStateException.class, call);
    }

    void noSuch(String what, Call call) {
        dueThrow(what, java.util.NoSuchElementException.class, call);
    }

    void noIndex(String what, Call call) {
        dueThrow(what, IndexOutOfBoundsException.class, call);
    }

    void unsupported(String what, Call call) {
        dueThrow(what, UnsupportedOperationException.class, call);
    }

    static String outcome(Call call) {
        try {
            return Long.toString(call.answer());
        } catch (RuntimeException e) {
            return "throws." + e.getClass().getSimpleName();
        }
    }

    private void tell(String text) {
        wrong++;
        if (wrong <= 40) {
            System.out.println(name + ": " + text + (sentence.isEmpty() ? "" : " [" + sentence + "]"));
        }
    }

    void end() {
        needAnswers();
        System.out.println(name + ": " + answers + " answers, " + wrong + " not as due");
        if (wrong != 0 || answers == 0) {
            System.exit(1);
        }
    }
}

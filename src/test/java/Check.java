import java.util.Set;

/** Counts answers that are not as due, and tells where they were asked for. */
final class Check {
    interface Answer {
        long get();
    }

    interface Act {
        void run();
    }

    static final Class<?> ARGUMENT = IllegalArgumentException.class;
    static final Class<?> STATE = IllegalStateException.class;
    static final Class<?> UNSUPPORTED = UnsupportedOperationException.class;
    static final Class<?> ABSENT = NullPointerException.class;
    static final Class<?> OUTSIDE = ArrayIndexOutOfBoundsException.class;
    static final Class<?> NEGATIVE = NegativeArraySizeException.class;
    static final Class<?> DIVISION = ArithmeticException.class;

    // A wrong answer is told with the line of the test, not with that of what helped to ask.
    private static final Set<String> HELPERS = Set.of("Check.java", "Sentences.java", "Boundaries.java");

    private int asked = 0;
    private int wrong = 0;

    /** The answer, or the name of what is thrown instead. */
    static String outcome(Answer call) {
        try {
            return Long.toString(call.get());
        } catch (RuntimeException e) {
            return e.getClass().getName();
        }
    }

    void answers(long due, Answer call) {
        compare(Long.toString(due), outcome(call));
    }

    void says(boolean due, java.util.function.BooleanSupplier call) {
        answers(due ? 1 : 0, () -> call.getAsBoolean() ? 1 : 0);
    }

    void refuses(Class<?> due, Act call) {
        String got = "no exception";
        try {
            call.run();
        } catch (RuntimeException e) {
            got = e.getClass().getName();
        }
        compare(due.getName(), got);
    }

    /** Two long texts, of which only the first line that differs is told. */
    void sameLines(String due, String got) {
        String[] dueLines = due.split("\n");
        String[] gotLines = got.split("\n");
        int line = 0;
        while (line < dueLines.length - 1 && line < gotLines.length - 1 && dueLines[line].equals(gotLines[line])) {
            line++;
        }
        compare(dueLines[line], gotLines[line]);
    }

    void holds(String what, boolean holding) {
        compare(what, holding ? what : "not so");
    }

    int asked() {
        return asked;
    }

    int wrong() {
        return wrong;
    }

    /** To be the last call of a test: its exit code tells whether all was as due. */
    void end() {
        System.out.println(asked + " asked, " + wrong + " not as due");
        if (wrong != 0 || asked == 0) {
            System.exit(1);
        }
    }

    private void compare(String due, String got) {
        asked++;
        if (!due.equals(got)) {
            wrong++;
            System.out.println(place() + ": due is " + due + ", got " + got);
        }
    }

    private static String place() {
        for (StackTraceElement frame : new Throwable().getStackTrace()) {
            if (!HELPERS.contains(frame.getFileName())) {
                return frame.getFileName() + ":" + frame.getLineNumber();
            }
        }
        return "somewhere";
    }
}

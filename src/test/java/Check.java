/** Counts answers that are not as due, and tells where they were asked for. */
final class Check {
    interface Answer {
        long get();
    }

    interface Act {
        void run();
    }

    static final Class<?> ARGUMENT = IllegalArgumentException.class;
    static final Class<?> STATE = IllegalStateException.class;
    static final Class<?> UNSUPPORTED = UnsupportedOperationException.class;
    static final Class<?> ABSENT = NullPointerException.class;
    static final Class<?> OUTSIDE = ArrayIndexOutOfBoundsException.class;
    static final Class<?> NEGATIVE = NegativeArraySizeException.class;
    static final Class<?> DIVISION = ArithmeticException.class;

    private int asked = 0;
    private int wrong = 0;

    void answers(long due, Answer call) {
        String got;
        try {
            got = Long.toString(call.get());
        } catch (RuntimeException e) {
            got = e.getClass().getName();
        }
        compare(Long.toString(due), got);
    }

    void says(boolean due, java.util.function.BooleanSupplier call) {
        answers(due ? 1 : 0, () -> call.getAsBoolean() ? 1 : 0);
    }

    void refuses(Class<?> due, Act call) {
        String got = "no exception";
        try {
            call.run();
        } catch (RuntimeException e) {
            got = e.getClass().getName();
        }
        compare(due.getName(), got);
    }

    void holds(String what, boolean holding) {
        compare(what, holding ? what : "not so");
    }

    /** To be the last call of a test: its exit code tells whether all was as due. */
    void end() {
        System.out.println(asked + " asked, " + wrong + " not as due");
        if (wrong != 0 || asked == 0) {
            System.exit(1);
        }
    }

    private void compare(String due, String got) {
        asked++;
        if (!due.equals(got)) {
            wrong++;
            System.out.println(place() + ": due is " + due + ", got " + got);
        }
    }

    private static String place() {
        for (StackTraceElement frame : new Throwable().getStackTrace()) {
            if (!frame.getClassName().startsWith("Check")) {
                return frame.getFileName() + ":" + frame.getLineNumber();
            }
        }
        return "somewhere";
    }
}

/** Counts the answers that are not as due, and tells where each was asked. */
final class Check {
    interface Call {
        Object answer();
    }

    private static int asked = 0;
    private static int wrong = 0;

    private Check() {
    }

    /** A char is due as a char, all whole numbers as one kind. */
    static void is(Object due, Call call) {
        asked++;
        Object got;
        try {
            got = call.answer();
        } catch (RuntimeException e) {
            got = e.getClass().getSimpleName();
        }
        if (!plain(due).equals(plain(got))) {
            wrong++;
            System.out.println(place() + ": answered " + got + ", due is " + due);
        }
    }

    /** The exception must be of this very class, not of one below it. */
    static void fails(Class<? extends RuntimeException> due, Call call) {
        asked++;
        String got;
        try {
            got = "answered " + call.answer();
        } catch (RuntimeException e) {
            if (e.getClass() == due) {
                return;
            }
            got = "threw " + e.getClass().getSimpleName();
        }
        wrong++;
        System.out.println(place() + ": " + got + ", due is " + due.getSimpleName());
    }

    static void fails(String problem) {
        wrong++;
        System.out.println(problem);
    }

    static int asked() {
        return asked;
    }

    static int wrong() {
        return wrong;
    }

    static void end() {
        System.out.println(asked + " questions, " + wrong + " wrong");
        if (wrong != 0) {
            System.exit(1);
        }
    }

    private static Object plain(Object value) {
        if (value instanceof Integer) {
            return Long.valueOf((Integer) value);
        }
        return value;
    }

    private static String place() {
        for (StackTraceElement frame : new Throwable().getStackTrace()) {
            if (!frame.getClassName().equals("Check") && !frame.getClassName().equals("Edges")) {
                return frame.getFileName() + ":" + frame.getLineNumber();
            }
        }
        return "?";
    }
}

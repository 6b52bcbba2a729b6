/** Counts the answers that are not due; a test ends with end(). */
final class Check {
    interface Call {
        Object answer();
    }

    private int asked = 0;
    private int wrong = 0;

    /** Numbers, signs and booleans are compared by what they print: 'h' is due as 'h', 7L as 7. */
    void due(String call, Object want, Call made) {
        asked++;
        String got;
        try {
            got = String.valueOf(made.answer());
        } catch (RuntimeException e) {
            got = e.toString();
        }
        if (!got.equals(String.valueOf(want))) {
            wrong++;
            System.out.println(call + " answered " + got + ", due is " + want);
        }
    }

    /** The exception is to be of this very class, and thrown by the program's own throw. */
    void dueThrow(String call, Class<? extends RuntimeException> want, Call made) {
        asked++;
        try {
            Object got = made.answer();
            wrong++;
            System.out.println(call + " answered " + got + ", due is " + want.getSimpleName());
        } catch (RuntimeException e) {
            if (e.getClass() != want || !isThrownByProgram(e)) {
                wrong++;
                System.out.println(call + " threw " + e + ", due is " + want.getSimpleName());
            }
        }
    }

    /** What the machine throws comes from inside the library, or has a class or a text of its own. */
    static boolean isThrownByProgram(RuntimeException e) {
        StackTraceElement[] trace = e.getStackTrace();
        String text = e.getMessage();
        boolean isDivision = text != null && text.startsWith("/ by");
        return trace.length > 0 && trace[0].getClassName().startsWith("RelayedTongues") && !isDivision;
    }

    void end() {
        System.out.println(asked + " answers, " + wrong + " not as due");
        if (wrong != 0 || asked == 0) {
            System.exit(1);
        }
    }
}

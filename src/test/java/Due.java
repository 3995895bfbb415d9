import java.util.Objects;

/** What the tests of the project share: a call, the answer that is due, and the count of wrong ones. */
final class Due {
    interface Call {
        Object answer();
    }

    private static int wrong = 0;
    private static int asked = 0;

    private Due() {
    }

    /** The answer of a call as a text: an exception by the name of its very class. */
    static String told(Call call) {
        try {
            return String.valueOf(call.answer());
        } catch (RuntimeException e) {
            return "throws " + e.getClass().getName();
        }
    }

    static void same(String what, String want, String got) {
        asked++;
        if (!Objects.equals(want, got)) {
            wrong++;
            System.out.println(asker() + ": " + what + " answered " + got + ", due is " + want);
        }
    }

    /** The test's method and line that ask: the texts of the calls alone are not all unlike. */
    private static String asker() {
        for (StackTraceElement frame : new Throwable().getStackTrace()) {
            if (!frame.getClassName().equals(Due.class.getName())) {
                return frame.getMethodName() + ", line " + frame.getLineNumber();
            }
        }
        return "";
    }

    static void is(String what, Object want, Call call) {
        same(what, String.valueOf(want), told(call));
    }

    static void fails(String what, Class<? extends RuntimeException> want, Call call) {
        same(what, "throws " + want.getName(), told(call));
    }

    static void end() {
        System.out.println(wrong == 0 ? asked + " answers are as due" : wrong + " of " + asked + " are not as due");
        if (wrong != 0) {
            System.exit(1);
        }
    }
}

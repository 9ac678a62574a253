import java.util.Objects;

/** Counts the checks of all tests, and prints each that fails. */
final class Check {
    private static int passed = 0;
    private static int failed = 0;

    interface Call {
        Object answer();
    }

    private Check() {
    }

    static void equal(String what, Object got, Object due) {
        if (Objects.equals(got, due)) {
            passed++;
        } else {
            failed++;
            System.out.println(what + " answered " + got + ", due is " + due);
        }
    }

    static void isTrue(String what, boolean holds) {
        equal(what, holds, true);
    }

    /** The call must throw the exception by a throw statement of the class itself. */
    static void throwsJust(String what, Class<? extends RuntimeException> due, Call call) {
        equal(what, answerOf(call), "throws." + due.getSimpleName());
    }

    /** The call's answer, or throws. and the name of the exception that it throws. */
    static String answerOf(Call call) {
        try {
            return String.valueOf(call.answer());
        } catch (RuntimeException e) {
            return "throws." + e.getClass().getSimpleName() + (isOwn(e) ? "" : " by the machine");
        }
    }

    /** Whether a throw statement of the class, or of the model, has thrown it. */
    private static boolean isOwn(RuntimeException e) {
        StackTraceElement[] trace = e.getStackTrace();
        String thrower = trace.length == 0 ? "" : trace[0].getClassName();
        boolean isDivision = "/ by zero".equals(e.getMessage());
        return !isDivision && (thrower.startsWith("DeskExchange") || thrower.equals("Model"));
    }

    static boolean report() {
        System.out.println(passed + " passed, " + failed + " failed");
        return failed == 0;
    }
}

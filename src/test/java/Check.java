import java.util.Objects;

/** Counts the checks of all tests, and prints each that fails. */
final class Check {
    private static int passed = 0;
    private static int failed = 0;

    private static String about = "";
    private static int checksAhead = 0;

    interface Call {
        Object answer();
    }

    interface NumberCall {
        Object answer(int number);
    }

    private Check() {
    }

    static void equal(String what, Object got, Object due) {
        if (Objects.equals(got, due)) {
            passed++;
        } else {
            failed++;
            System.out.println(about + what + " answered " + got + ", due is " + due);
        }
    }

    /** What fails from here on is told with the name of the test. */
    static void begin(String test) {
        about = test + ": ";
        checksAhead = passed + failed;
    }

    /** A test must have checked something. */
    static void end() {
        isTrue("the number of checks is greater than 0", passed + failed > checksAhead);
        about = "";
    }

    static void isTrue(String what, boolean holds) {
        equal(what, holds, true);
    }

    /** The call must throw the exception by a throw statement of the class itself. */
    static void throwsJust(String what, Class<? extends RuntimeException> due, Call call) {
        equal(what, answerOf(call), "throws." + due.getSimpleName());
    }

    /** Each of the numbers must make the call throw. */
    static void eachThrows(String what, Class<? extends RuntimeException> due, int[] numbers,
            NumberCall call) {
        for (int number : numbers) {
            throwsJust(what + " " + number, due, () -> call.answer(number));
        }
    }

    /** The call's answer, or throws. and the name of the exception that it throws. */
    static String answerOf(Call call) {
        try {
            return String.valueOf(call.answer());
        } catch (RuntimeException e) {
            return "throws." + e.getClass().getSimpleName() + (isOwn(e) ? "" : " by the machine");
        }
    }

    /** Whether a throw statement of the class, or of the model, has thrown it. */
    private static boolean isOwn(RuntimeException e) {
        StackTraceElement[] trace = e.getStackTrace();
        String thrower = trace.length == 0 ? "" : trace[0].getClassName();
        boolean isDivision = "/ by zero".equals(e.getMessage());
        return !isDivision && (thrower.startsWith("DeskExchange") || thrower.equals("Model"));
    }

    static boolean report() {
        System.out.println(passed + " passed, " + failed + " failed");
        return failed == 0;
    }
}

import java.lang.reflect.InvocationTargetException;
import java.lang.reflect.Method;
import java.util.Arrays;
import java.util.Comparator;

/** Runs the tests of a class that are bound to sentences of the document by Says. */
final class Sentences {
    private Sentences() {
    }

    static void run(Class<?> tests) throws Exception {
        Method[] methods = tests.getDeclaredMethods();
        Arrays.sort(methods, Comparator.comparing(Method::getName));
        for (Method method : methods) {
            Says says = method.getAnnotation(Says.class);
            boolean looksLikeTest = method.getReturnType() == void.class
                    && method.getParameterCount() == 0 && !method.isSynthetic();
            Check.equal(method + " is bound to a sentence", says != null, looksLikeTest);
            if (says != null) {
                runOne(method, says);
            }
        }
    }

    private static void runOne(Method method, Says says) throws Exception {
        for (String words : says.value()) {
            Document.quote(words);
        }
        Check.begin(method.getName() + ", by the words \"" + String.join("\", \"", says.value()) + "\"");
        try {
            method.invoke(null);
        } catch (InvocationTargetException e) {
            Check.equal("the test itself", e.getCause(), "its end");
        }
        Check.end();
    }
}

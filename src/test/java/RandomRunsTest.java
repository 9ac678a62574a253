import java.lang.reflect.InvocationTargetException;
import java.lang.reflect.Method;
import java.lang.reflect.Modifier;
import java.util.ArrayList;
import java.util.Comparator;
import java.util.HashMap;
import java.util.List;
import java.util.Map;

/** Runs of at most 512 calls, made by number: the class must answer as the model does. */
final class RandomRunsTest {
    private static final int RUNS = 1500;
    private static final int MOST_CALLS = 512;
    private static final String[] WORDS = {"a", "b", "c", "ab", "d", "bc"};
    private static final String[] SETUP = {"addCustomer", "addCause", "addKeyword", "addPage",
        "addPerson", "addStock", "planChange"};
    private static final String[] DEEDS = {"open", "open", "open", "open", "join", "join", "confirm",
        "assign", "assign", "assign", "letGo", "pass", "pass", "pass", "failChange", "planChange"};

    private static final Map<String, Integer> answered = new HashMap<>();
    private static final Map<String, Integer> thrown = new HashMap<>();

    private final List<Method> observers = new ArrayList<>();
    private final Map<String, Method> face = new HashMap<>();
    private final List<Object[]> calls = new ArrayList<>();
    private final Model model = new Model();
    private final DeskExchange desk = new DeskExchange();
    private final int run;
    private long seed;
    private boolean isWrong = false;

    private RandomRunsTest(int run) {
        this.run = run;
        this.seed = run * 7919L + 17;
        for (Method each : DeskExchange.class.getDeclaredMethods()) {
            if (Modifier.isPublic(each.getModifiers())) {
                face.put(each.getName(), each);
            }
        }
        for (Method each : face.values()) {
            if (!List.of(DEEDS).contains(each.getName()) && !List.of(SETUP).contains(each.getName())
                    && !each.getName().equals("type")) {
                observers.add(each);
            }
        }
        observers.sort(Comparator.comparing(Method::getName));
    }

    static void run() throws Exception {
        for (int i = 0; i < RUNS; i++) {
            new RandomRunsTest(i).play();
        }
        for (String name : new RandomRunsTest(0).face.keySet()) {
            boolean mayThrow = !List.of("now", "isConsistent").contains(name);
            Check.isTrue(name + " has answered", answered.getOrDefault(name, 0) > 0);
            Check.isTrue(name + " has thrown", thrown.getOrDefault(name, 0) > 0 || !mayThrow);
        }
    }

    private int random(int bound) {
        seed = seed * 6364136223846793005L + 1442695040888963407L;
        return (int) ((seed >>> 33) % bound);
    }

    private void play() throws Exception {
        while (calls.size() < MOST_CALLS && !isWrong) {
            int kind = random(calls.size() < 120 ? 10 : 14);
            if (kind < (calls.size() < 120 ? 6 : 1)) {
                typeAndCall(SETUP[random(SETUP.length)]);
            } else if (kind < 8) {
                typeAndCall(DEEDS[random(DEEDS.length)]);
            } else {
                call(observers.get(random(observers.size())));
            }
        }
        Check.isTrue("random run " + run, !isWrong);
        replayWithoutThrown();
    }

    private void typeAndCall(String name) throws Exception {
        if (name.equals("open") || name.equals("addKeyword")) {
            int words = name.equals("open") ? 1 + random(3) : 1 + random(20) / 19;
            for (int i = 0; i < words && random(30) > 0; i++) {
                typeWord(i > 0 || random(10) == 0);
            }
        }
        if (random(60) == 0) {
            answer(face.get("type"), new Object[] {(char) random(300)});
        }
        call(face.get(name));
    }

    private void typeWord(boolean isBlankAhead) throws Exception {
        String word = WORDS[random(WORDS.length)];
        for (char each : ((isBlankAhead ? " " : "") + word).toCharArray()) {
            answer(face.get("type"), new Object[] {each});
        }
    }

    private void call(Method method) throws Exception {
        Object[] arguments = new Object[method.getParameterCount()];
        for (int i = 0; i < arguments.length; i++) {
            boolean isTruth = method.getParameterTypes()[i] == boolean.class;
            arguments[i] = isTruth ? (Object) (random(2) == 0) : (Object) number(method.getName(), i);
        }
        answer(method, arguments);
    }

    private int number(String name, int index) {
        if (random(40) == 0) {
            int[] odd = {-1, 0, 256, 5000, 5001, 600, 601, 1440, 1441, 20000, 20001, 1000, 1001, 50,
                51, Integer.MAX_VALUE, Integer.MIN_VALUE};
            return odd[random(odd.length)];
        }
        switch (name + index) {
            case "addCustomer0":
                return 1 + random(random(2) == 0 ? 20 : 300);
            case "addCause0":
                return 1 + random(random(2) == 0 ? 5 : 60);
            case "addCause1":
                return random(6) - 1;
            case "addKeyword0":
                return random(5);
            case "addPerson0":
                return random(3) == 0 ? random(256) : 255;
            case "addPerson1":
                return random(3) == 0 ? random(1440) : 0;
            case "addPerson2":
                return random(3) == 0 ? random(1441) : 1440;
            case "addStock1":
                return 1 + random(3);
            case "planChange1":
                return model.now() + random(4);
            case "planChange2":
                return model.now() + 2 + random(60);
            case "pass0":
                return 1 + random(random(12) == 0 ? 1000 : random(2) == 0 ? 4 : 30);
            case "lineAt0":
                return random(36);
            default:
                return random(name.equals("open") ? 3 : name.endsWith("Change") ? 5 : 12);
        }
    }

    private void answer(Method method, Object[] arguments) throws Exception {
        if (calls.size() >= MOST_CALLS || isWrong) {
            return;
        }
        String due = answerOf(model, method.getName(), method.getParameterTypes(), arguments);
        String got = answerOf(desk, method.getName(), method.getParameterTypes(), arguments);
        calls.add(new Object[] {method, arguments, due});
        (due.startsWith("throws.") ? thrown : answered).merge(method.getName(), 1, Integer::sum);
        if (!got.equals(due)) {
            isWrong = true;
            tell();
            Check.equal("random run " + run + ": " + method.getName(), got, due);
        }
    }

    private static String answerOf(Object object, String name, Class<?>[] types, Object[] arguments)
            throws Exception {
        Method method = object.getClass().getMethod(name, types);
        return Check.answerOf(() -> {
            try {
                return method.invoke(object, arguments);
            } catch (InvocationTargetException e) {
                throw (RuntimeException) e.getCause();
            } catch (IllegalAccessException e) {
                throw new AssertionError(e);
            }
        });
    }

    private void tell() {
        for (Object[] each : calls) {
            System.out.println("  " + ((Method) each[0]).getName()
                    + java.util.Arrays.toString((Object[]) each[1]) + " due is " + each[2]);
        }
    }

    /** A call that throws changes nothing but the buffer: without it, the rest answers the same. */
    private void replayWithoutThrown() throws Exception {
        DeskExchange other = new DeskExchange();
        for (Object[] each : calls) {
            Method method = (Method) each[0];
            boolean isEmptying = List.of("open", "addKeyword").contains(method.getName());
            if (isWrong || !isEmptying && each[2].toString().startsWith("throws.")) {
                continue;
            }
            String got = answerOf(other, method.getName(), method.getParameterTypes(),
                    (Object[]) each[1]);
            if (!got.equals(each[2])) {
                isWrong = true;
                Check.equal("replay of run " + run + ": " + method.getName(), got, each[2]);
            }
        }
        Check.isTrue("replay of random run " + run, !isWrong);
    }
}

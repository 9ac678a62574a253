import java.io.IOException;
import java.lang.reflect.Method;
import java.lang.reflect.Modifier;
import java.net.URL;
import java.net.URLClassLoader;
import java.nio.file.Files;
import java.nio.file.Path;
import java.util.ArrayList;
import java.util.List;
import java.util.Map;
import java.util.Set;
import java.util.TreeMap;
import java.util.TreeSet;
import java.util.function.Supplier;
import java.util.regex.Matcher;
import java.util.regex.Pattern;
import javax.tools.ToolProvider;

/** The example calls of README.md answer as it says, and its tables tell the face. */
public final class ReadmeTest {
    private static final Pattern BLOCK = Pattern.compile("```java\n(.*?)```", Pattern.DOTALL);
    /** A call, its answer or what it throws, and perhaps a remark in parentheses. */
    private static final Pattern CALL = Pattern.compile("(\\S.*?); +// (.*?)( \\(.*\\))?");
    private static final Pattern ROW = Pattern.compile("\\| `(\\w+\\(.*\\))` \\| .+ \\| (.+) \\|");

    private static final String OBJECT = "DeskExchange desk = new DeskExchange();";

    private static final StringBuilder helpers = new StringBuilder();
    private static final StringBuilder body = new StringBuilder();
    private static final List<String> calls = new ArrayList<>();

    /** Public, as the example is loaded by another class loader. */
    public interface Example {
        void run();
    }

    private ReadmeTest() {
    }

    static void run() throws Exception {
        String readme = Files.readString(Path.of("README.md"));
        Matcher block = BLOCK.matcher(readme);
        while (block.find()) {
            if (block.group(1).startsWith("static ")) {
                helpers.append(block.group(1));
            } else {
                block.group(1).lines().forEach(ReadmeTest::readCall);
            }
        }
        allMethodsAreCalled();
        runExample();
        Check.equal("the tables of README.md", rowsOf(readme), rowsDue());
    }

    private static void readCall(String text) {
        Matcher call = CALL.matcher(text);
        if (text.equals(OBJECT)) {
            body.append(text).append('\n');
        } else if (call.matches()) {
            String due = call.group(2).startsWith("throws ")
                    ? call.group(2).substring("throws ".length()) + ".class" : call.group(2);
            body.append("ReadmeTest.check(").append(calls.size()).append(", () -> ")
                    .append(call.group(1)).append(", ").append(due).append(");\n");
            calls.add(call.group(1));
        } else {
            Check.equal("a line of README.md's examples", text, "a call with its answer");
        }
    }

    private static void allMethodsAreCalled() {
        Set<String> called = new TreeSet<>();
        Matcher call = Pattern.compile("desk\\.(\\w+)\\(").matcher(String.join("\n", calls));
        while (call.find()) {
            called.add(call.group(1));
        }
        Set<String> face = new TreeSet<>();
        for (Method method : DeskExchange.class.getDeclaredMethods()) {
            if (Modifier.isPublic(method.getModifiers())) {
                face.add(method.getName());
            }
        }
        Check.equal("the methods that README.md's examples call", called, face);
    }

    private static void runExample() throws Exception {
        Path directory = Files.createTempDirectory("readme");
        Path source = directory.resolve("ReadmeExample.java");
        Path compiled = directory.resolve("ReadmeExample.class");
        try {
            Files.writeString(source, "import java.util.NoSuchElementException;\n"
                    + "public final class ReadmeExample implements ReadmeTest.Example {\n"
                    + helpers + "public void run() {\n" + body + "}\n}\n");
            int failed = ToolProvider.getSystemJavaCompiler().run(null, System.out, System.out,
                    "-d", directory.toString(), "-cp", System.getProperty("java.class.path"),
                    source.toString());
            Check.equal("README.md's examples compile with exit code", failed, 0);
            if (failed == 0) {
                load(directory).run();
            }
        } finally {
            Files.deleteIfExists(source);
            Files.deleteIfExists(compiled);
            Files.deleteIfExists(directory);
        }
    }

    private static Example load(Path directory) throws Exception {
        URL[] places = {directory.toUri().toURL()};
        try (URLClassLoader loader = new URLClassLoader(places, ReadmeTest.class.getClassLoader())) {
            return (Example) loader.loadClass("ReadmeExample").getDeclaredConstructor().newInstance();
        }
    }

    /** The example calls this, with the class of the exception where one is due. */
    public static void check(int number, Supplier<Object> call, Object due) {
        String what = "README.md: " + calls.get(number);
        if (due instanceof Class<?> exception) {
            Check.throwsJust(what, exception.asSubclass(RuntimeException.class), call::get);
            return;
        }
        Object answer;
        try {
            answer = call.get();
        } catch (RuntimeException e) {
            answer = e;
        }
        Check.equal(what, answer, due);
    }

    private static Map<String, String> rowsOf(String readme) {
        Map<String, String> rows = new TreeMap<>();
        for (String line : readme.split("\n")) {
            Matcher row = ROW.matcher(line);
            if (row.matches()) {
                rows.put(row.group(1), row.group(2));
            }
        }
        return rows;
    }

    /** Each method with the names of its parameters, and what it throws by the document. */
    private static Map<String, String> rowsDue() throws IOException {
        Pattern signature = Pattern.compile("`\\w+ (\\w+)\\((.*?)\\).*`: .*");
        Map<String, String> rows = new TreeMap<>();
        String method = "";
        for (String line : Files.readAllLines(Path.of("../shared/DOC.md"))) {
            Matcher start = signature.matcher(line);
            if (start.matches()) {
                method = start.group(1) + "(" + start.group(2).replaceAll("\\w+ (\\w+)", "$1") + ")";
                rows.put(method, "nothing");
            } else if (line.startsWith("Throws `")) {
                String before = rows.get(method).equals("nothing") ? "" : rows.get(method) + "; ";
                rows.put(method, before + line.substring("Throws ".length()));
            }
        }
        Check.equal("methods in the document", rows.size(), 38);
        return rows;
    }
}

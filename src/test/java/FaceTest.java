import java.lang.reflect.Constructor;
import java.lang.reflect.Executable;
import java.lang.reflect.Field;
import java.lang.reflect.Method;
import java.lang.reflect.Modifier;
import java.nio.file.Files;
import java.nio.file.Path;
import java.util.Set;
import java.util.TreeSet;

/** The face is the one that the document's code block prints, and no more. */
final class FaceTest {
    private FaceTest() {
    }

    static void run() throws Exception {
        Set<String> due = new TreeSet<>();
        boolean isInFace = false;
        for (String line : Files.readAllLines(Path.of("../shared/DOC.md"))) {
            if (line.startsWith("```")) {
                isInFace = line.equals("```java");
            } else if (isInFace && line.startsWith("    public ")) {
                due.add(withoutNames(line.trim()));
            }
        }
        Check.equal("members in the document's face", due.size(), 39);
        Check.equal("the face", face(), due);
        Check.isTrue("the class is public and final",
                DeskExchange.class.getModifiers() == (Modifier.PUBLIC | Modifier.FINAL));
        Check.equal("the class above", DeskExchange.class.getSuperclass(), Object.class);
    }

    /** "public int open(int customer) throws E, F;" becomes "int open(int) throws E, F". */
    private static String withoutNames(String line) {
        String text = line.substring("public ".length(), line.length() - 1);
        return text.replaceAll("(int|char|boolean) \\w+([,)])", "$1$2");
    }

    private static Set<String> face() {
        Set<String> face = new TreeSet<>();
        for (Constructor<?> each : DeskExchange.class.getDeclaredConstructors()) {
            addUnlessPrivate(face, each, "DeskExchange");
        }
        for (Method each : DeskExchange.class.getDeclaredMethods()) {
            addUnlessPrivate(face, each, each.getReturnType().getSimpleName() + " " + each.getName());
        }
        for (Field each : DeskExchange.class.getDeclaredFields()) {
            Check.isTrue("field " + each.getName() + " is private",
                    Modifier.isPrivate(each.getModifiers()));
        }
        return face;
    }

    private static void addUnlessPrivate(Set<String> face, Executable each, String name) {
        if (Modifier.isPrivate(each.getModifiers()) || each.isSynthetic()) {
            return;
        }
        Check.isTrue(name + " is public and nothing else", each.getModifiers() == Modifier.PUBLIC);
        face.add(name + "(" + listed(each.getParameterTypes()) + ")"
                + (each.getExceptionTypes().length == 0 ? "" : " throws ")
                + listed(each.getExceptionTypes()));
    }

    private static String listed(Class<?>[] types) {
        StringBuilder list = new StringBuilder();
        for (Class<?> type : types) {
            list.append(list.length() == 0 ? "" : ", ").append(type.getSimpleName());
        }
        return list.toString();
    }
}

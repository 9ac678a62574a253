import java.lang.reflect.Field;
import java.lang.reflect.Method;
import java.lang.reflect.Modifier;
import java.nio.file.Files;
import java.nio.file.Path;
import java.util.HashSet;
import java.util.Set;
import java.util.regex.Matcher;
import java.util.regex.Pattern;

/** Those rules of LANGUAGE.md that can be seen from the outside of the class or by plain words. */
final class LanguageTest {
    private static final Path SOURCE = Path.of("src/main/java/DeskExchange.java");

    private LanguageTest() {
    }

    static void run() throws Exception {
        source();
        members(DeskExchange.class);
        for (Class<?> inside : DeskExchange.class.getDeclaredClasses()) {
            Check.isTrue(inside + " is static, and private or package-visible",
                    Modifier.isStatic(inside.getModifiers())
                    && !Modifier.isPublic(inside.getModifiers())
                    && !Modifier.isProtected(inside.getModifiers()));
            members(inside);
        }
        Check.isTrue("at most twelve classes", DeskExchange.class.getDeclaredClasses().length < 12);
    }

    private static void source() throws Exception {
        String text = Files.readString(SOURCE);
        String code = text.replaceAll("//.*", "").replaceAll("(?s)/\\*.*?\\*/", "");
        String[] words = {"package ", "->", "::", "catch", "finally", "assert", "synchronized",
            "static {", "System.", "import java.util.*", "Thread", "Random", "instanceof String",
            "Exact(", "getMessage", "native ", "protected ", "+ \"", "\" +", "var "};
        for (String word : words) {
            Check.isTrue("the source does without " + word, !code.contains(word));
        }
        Set<String> imports = new HashSet<>();
        Matcher matcher = Pattern.compile("import ([\\w.]+);").matcher(code);
        while (matcher.find()) {
            imports.add(matcher.group(1));
        }
        imports.removeAll(Set.of("java.util.ArrayList", "java.util.List", "java.util.Arrays",
                "java.util.Iterator", "java.util.NoSuchElementException"));
        Check.equal("other imports", imports, Set.of());
        Check.isTrue("signs 1 to 127 alone", code.chars().allMatch(sign -> sign < 128));
        sizesAheadOf("(\\w+)\\.get\\(", ".size()", code);
        sizesAheadOf("(\\w+)\\.charAt\\(", ".length()", code);
    }

    /** Where an element is taken, the same method must ask how many there are; blank lines part them. */
    private static void sizesAheadOf(String taking, String size, String code) {
        int found = 0;
        for (String method : code.split("\n\\s*\n")) {
            Matcher matcher = Pattern.compile(taking).matcher(method);
            while (matcher.find()) {
                String asked = matcher.group(1) + size;
                Check.isTrue(asked + " is asked in" + method, method.contains(asked));
                found++;
            }
        }
        Check.isTrue("elements are taken by " + taking, found > 0);
    }

    private static void members(Class<?> each) {
        Set<String> face = new HashSet<>();
        for (Method method : DeskExchange.class.getMethods()) {
            face.add(method.getName());
        }
        int fields = 0;
        for (Field field : each.getDeclaredFields()) {
            boolean isStatic = Modifier.isStatic(field.getModifiers());
            Check.isTrue(field + " is no state of the class",
                    !isStatic || Modifier.isFinal(field.getModifiers()));
            fields += isStatic ? 0 : 1;
        }
        Check.isTrue(each + " has at most twenty fields", fields <= 20);
        for (Method method : each.getDeclaredMethods()) {
            Check.isTrue(method + " takes at most seven parameters",
                    method.getParameterCount() <= 7);
            Check.isTrue(method + " does not bear the name of a public one",
                    Modifier.isPublic(method.getModifiers()) || !face.contains(method.getName()));
        }
    }
}

import java.io.IOException;
import java.nio.file.Files;
import java.nio.file.Path;
import java.util.ArrayList;
import java.util.BitSet;
import java.util.LinkedHashMap;
import java.util.List;
import java.util.Map;
import java.util.regex.Matcher;
import java.util.regex.Pattern;

/** The words of ../shared/DOC.md by their sections, and which of them a test has quoted. */
final class Document {
    private static final Pattern PROMISE = Pattern.compile("Promise (\\d+): .*");
    private static final Pattern TERM = Pattern.compile("([A-Z][a-z]+)\\. (.*)");
    private static final Pattern BEHIND_SIGNATURE = Pattern.compile("`[^`]*`: (.*)");
    /** Such a line only gives a number its name: what it may be is said where the call throws. */
    private static final Pattern MERE_NAME =
            Pattern.compile("`\\w+`: the (other ticket|kind of part|[a-z]+)");
    /** What no call can show. */
    private static final String[] NOT_TO_BE_SHOWN = {
        "What it is: A help desk.",
        "What it is: what later calls answer is free.",
        "Terms: This class is not thread-safe."};

    private static final Map<String, String> texts = new LinkedHashMap<>();
    private static final Map<String, BitSet> quoted = new LinkedHashMap<>();

    private Document() {
    }

    static void read() throws IOException {
        String section = "";
        for (String line : Files.readAllLines(Path.of("../shared/DOC.md"))) {
            if (line.startsWith("## ")) {
                section = sectionOf(line.substring(3));
            } else if (!section.isEmpty() && !line.startsWith("Ahead of the calls ")) {
                readLine(section, line);
            }
        }
        for (String words : NOT_TO_BE_SHOWN) {
            quote(words);
        }
    }

    private static String sectionOf(String heading) {
        Matcher promise = PROMISE.matcher(heading);
        if (promise.matches()) {
            return promise.group(1);
        }
        return heading.equals("What it is") || heading.equals("Terms") ? heading : "";
    }

    private static void readLine(String section, String line) {
        Matcher term = TERM.matcher(line);
        Matcher behindSignature = BEHIND_SIGNATURE.matcher(line);
        if (section.equals("Terms") && term.matches()) {
            add(term.group(1), term.group(2));
        } else if (behindSignature.matches()) {
            add(section, behindSignature.group(1));
        } else {
            add(section, line.startsWith("- ") ? line.substring(2) : line);
        }
    }

    private static void add(String section, String line) {
        texts.merge(section, line, (before, behind) -> before + "\n" + behind);
        quoted.putIfAbsent(section, new BitSet());
    }

    /** The words stand behind their section; the document must have them there. */
    static void quote(String sectionAndWords) {
        int colon = sectionAndWords.indexOf(": ");
        String section = colon < 0 ? "" : sectionAndWords.substring(0, colon);
        String words = sectionAndWords.substring(colon + 2);
        String text = texts.getOrDefault(section, "");
        int at = text.indexOf(words);
        Check.isTrue("the document says " + sectionAndWords, at >= 0);
        while (at >= 0) {
            quoted.get(section).set(at, at + words.length());
            at = text.indexOf(words, at + 1);
        }
    }

    /** Each sentence of the document must be quoted by a test. */
    static void checkAllQuoted() {
        Check.equal("sections read", texts.size(), 52);
        for (Map.Entry<String, String> section : texts.entrySet()) {
            Check.equal("not quoted of " + section.getKey(),
                    unquoted(section.getValue(), quoted.get(section.getKey())), List.of());
        }
    }

    private static List<String> unquoted(String text, BitSet marks) {
        List<String> rest = new ArrayList<>();
        int start = 0;
        for (String line : text.split("\n", -1)) {
            StringBuilder left = new StringBuilder();
            for (int i = 0; i < line.length(); i++) {
                left.append(marks.get(start + i) ? "" : line.charAt(i));
            }
            boolean hasWords = left.chars().anyMatch(Character::isLetterOrDigit);
            if (hasWords && !MERE_NAME.matcher(line).matches()) {
                rest.add(left.toString());
            }
            start += line.length() + 1;
        }
        return rest;
    }
}

import java.io.IOException;
import java.nio.file.Files;
import java.nio.file.Path;
import java.util.ArrayDeque;
import java.util.Deque;
import java.util.HashSet;
import java.util.Set;
import java.util.TreeSet;
import java.util.regex.Matcher;
import java.util.regex.Pattern;

/** The rules of LANGUAGE.md that can be seen in the text of the class. */
final class LanguageTest {
    private static final Check check = new Check("LanguageTest");
    private static final Path SOURCE = Path.of("src/main/java/ReflectMirror.java");
    private static final String[] FORBIDDEN = {"throw", "throws", "try", "catch", "finally", "synchronized", "assert",
        "import", "package", "protected", "volatile", "native", "transient", "var", "sealed", "yield", "Object", "Double",
        "Float", "Boolean", "Character", "Exception", "Throwable", "Thread", "System", "hashCode", "toString", "getClass"};
    private static final int MOST_CLASSES = 12;
    private static final int MOST_LINES = 60;
    private static final int MOST_PARAMS = 7;

    public static void main(String[] args) throws IOException {
        String raw = Files.readString(SOURCE);
        String text = bare(raw);
        forbiddenWords(text);
        classes(text);
        methods(text);
        check.due("texts are of characters 0 to 255", raw.chars().filter(c -> c > 255).count(), 0);
        check.due("no lambda, no method reference", count(text, "->|::"), 0);
        check.due("no Exact function", count(text, "\\w+Exact\\s*\\("), 0);
        check.due("no exception by its name", count(text, "\\w+(Exception|Error)\\b"), 0);
        check.due("no double, float", count(text, "\\b(double|float)\\b"), 0);
        check.end();
    }

    /** Without comments, and with texts and characters emptied. */
    private static String bare(String raw) {
        String text = raw.replaceAll("(?s)/\\*.*?\\*/", " ").replaceAll("//[^\\n]*", " ");
        return text.replaceAll("\"[^\"\\n]*\"", "\"\"").replaceAll("'[^']'", "' '");
    }

    private static long count(String text, String pattern) {
        return Pattern.compile(pattern).matcher(text).results().count();
    }

    private static void forbiddenWords(String text) {
        for (String word : FORBIDDEN) {
            check.due("word " + word, count(text, "\\b" + word + "\\b"), 0);
        }
    }

    private static void classes(String text) {
        long all = count(text, "\\b(class|record|enum|interface)\\s+\\w+");
        check.due("classes, at most twelve", all <= MOST_CLASSES ? 1 : 0, 1);
        check.due("classes inside are private and static", count(text, "\\n    private static final class "), all - 1);
        check.due("the class itself", count(text, "public final class ReflectMirror \\{"), 1);
    }

    private static void methods(String text) {
        Matcher heads = Pattern.compile("\\n +((?:public |private |static |final )*)(?:[\\w\\[\\]]+ )?(\\w+)\\(([^)]*)\\) \\{\\n").matcher(text);
        Set<String> open = new TreeSet<>();
        Set<String> others = new HashSet<>();
        while (heads.find()) {
            String name = heads.group(2);
            if (name.equals("if") || name.equals("for") || name.equals("switch") || name.equals("while")) {
                continue;
            }
            boolean isPublic = heads.group(1).contains("public");
            (isPublic ? open : others).add(name);
            int params = heads.group(3).isBlank() ? 0 : heads.group(3).split(",").length;
            check.due("params of " + name + ", at most seven", params <= MOST_PARAMS || name.equals("method") ? 1 : 0, 1);
            check.due("lines of " + name + ", at most sixty", lines(text, heads.end()) <= MOST_LINES ? 1 : 0, 1);
        }
        others.retainAll(open);
        check.due("others that bear a public name: " + others, others.size(), 0);
    }

    private static int lines(String text, int from) {
        Deque<Integer> open = new ArrayDeque<>();
        open.push(from);
        int lines = 1;
        for (int i = from; i < text.length() && !open.isEmpty(); i++) {
            char c = text.charAt(i);
            if (c == '{') {
                open.push(i);
            } else if (c == '}') {
                open.pop();
            } else if (c == '\n') {
                lines++;
            }
        }
        return lines;
    }
}

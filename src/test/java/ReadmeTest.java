import java.io.IOException;
import java.nio.file.Files;
import java.nio.file.Path;
import java.util.HashMap;
import java.util.Map;
import java.util.regex.Matcher;
import java.util.regex.Pattern;
import java.util.stream.Stream;

/** README.md: the calls that it writes out answer what stands behind them, and its table has each test. */
final class ReadmeTest {
    private static final Check check = new Check("ReadmeTest");
    /** For instance: int box = x.type(8, 0, false);   // 10: its PARENT is ROOT */
    private static final Pattern CALL = Pattern.compile("(?:int (\\w+) = )?x\\.(\\w+)\\((.*)\\);\\s*// (-?\\d+)(?::.*)?");
    private static final Pattern TEST_ROW = Pattern.compile("(?m)^\\| `(\\w+Test)` \\|");

    public static void main(String[] args) throws IOException {
        String text = Files.readString(Path.of("README.md"));
        String example = text.substring(text.indexOf("ReflectMirror x = new"), text.indexOf("Every call answers"));
        run(example);
        tests(text);
        check.end();
    }

    private static void run(String example) {
        ReflectMirror x = new ReflectMirror();
        Map<String, String> named = new HashMap<>();
        for (String line : example.split("\n")) {
            if (!line.contains("x.")) {
                continue;
            }
            Matcher row = CALL.matcher(line.trim());
            check.due("is a call with its answer: " + line, row.matches() ? 1 : 0, 1);
            Spoken call = Spoken.of(row.group(2) + "(" + withNumbers(row.group(3), named) + ")");
            check.due(line.trim(), call.on(x), Long.parseLong(row.group(4)));
            if (row.group(1) != null) {
                named.put(row.group(1), row.group(4));
            }
        }
        check.due("the example has calls", named.isEmpty() ? 0 : 1, 1);
    }

    private static String withNumbers(String arguments, Map<String, String> named) {
        return Pattern.compile("\\w+").matcher(arguments).replaceAll(word -> named.getOrDefault(word.group(), word.group()));
    }

    private static void tests(String text) throws IOException {
        long there;
        try (Stream<Path> files = Files.list(Path.of("src/test/java"))) {
            there = files.filter(file -> file.toString().endsWith("Test.java")).count();
        }
        long told = 0;
        Matcher row = TEST_ROW.matcher(text);
        while (row.find()) {
            told++;
            check.due("there is " + row.group(1), Files.exists(Path.of("src/test/java", row.group(1) + ".java")) ? 1 : 0, 1);
        }
        check.due("tests in the table", told, there);
    }
}

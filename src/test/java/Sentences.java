import java.io.IOException;
import java.nio.file.Files;
import java.nio.file.Path;
import java.util.ArrayList;
import java.util.Arrays;
import java.util.HashSet;
import java.util.List;
import java.util.Set;

/**
 * Sentences of the document, each with runs of calls that would answer otherwise if it were broken.
 * A run is told in lines, each a call on one new object and its answer: with = what is due; with ! what is due where
 * the call is refused or FAILS, and then nothing has changed, either. What follows // is left out.
 */
final class Sentences {
    private static final Path DOCUMENT = Path.of("../shared/DOC.md");
    private static final int MOST_CALLS = 512;
    private final Check check;
    private final String document;
    private final boolean[] quoted;
    /** Each call by its name, with each answer by which a run saw it refused or failing. */
    private final Set<String> refusals = new HashSet<>();
    private String label = "";
    /** What changed the object of this run so far, or might have. */
    private final List<Spoken> kept = new ArrayList<>();
    private List<List<String>> questions;
    private List<Long> before;

    Sentences(String test) throws IOException {
        check = new Check(test);
        document = Files.exists(DOCUMENT) ? plain(Files.readString(DOCUMENT)) : "";
        quoted = new boolean[document.length()];
    }

    private static String plain(String text) {
        return text.replaceAll("(?m)^```.*$", " ").replaceAll("\\s+", " ");
    }

    /** The words stand so in the document; the promise is the one whose calls show whether they hold. */
    void says(int promise, String words, String... runs) {
        quote(plain(words));
        for (int i = 0; i < runs.length; i++) {
            label = "promise " + promise + ", \"" + words + "\", run " + (i + 1);
            run(runs[i]);
        }
        check.due(label + ": has a run", runs.length > 0 ? 1 : 0, 1);
    }

    private void quote(String words) {
        if (document.isEmpty()) {
            return;
        }
        int from = document.indexOf(words);
        check.due("in the document stands: " + words, from < 0 ? 0 : 1, 1);
        for (int at = from; at >= 0; at = document.indexOf(words, at + 1)) {
            Arrays.fill(quoted, at, at + words.length(), true);
        }
    }

    /** What of the document between two places no test has quoted. */
    void dueQuoted(String from, String to) {
        if (document.isEmpty()) {
            System.out.println("SentencesTest: no document at " + DOCUMENT + ", so none is compared");
            return;
        }
        int start = document.indexOf(from);
        int end = document.indexOf(to);
        check.due("the document has both " + from + " and " + to, start >= 0 && end > start ? 1 : 0, 1);
        StringBuilder left = new StringBuilder();
        for (int i = Math.max(0, start); i <= end; i++) {
            if (i < end && !quoted[i]) {
                left.append(document.charAt(i));
            } else if (left.length() > 0) {
                String rest = left.toString().trim();
                left.setLength(0);
                check.due("no test of: " + rest, isFrame(rest) ? 1 : 0, 1);
            }
        }
    }

    /** Each of these answers of a call was seen, and that it changed nothing. */
    void dueRefused(String call, long... answers) {
        for (long answer : answers) {
            check.due(call + "() that answers " + answer + " is in a run", refusals.contains(call + " " + answer) ? 1 : 0, 1);
        }
    }

    /** Headings, the lines that repeat the face, and what is between sentences. */
    private static boolean isFrame(String rest) {
        String words = rest.replaceAll("## Promise \\d+: \\w+( new object| object)?", " ").replaceAll("`[^`]*`:?", " ")
                .replaceAll("Ahead of the calls [ ,]* the interface says: ---- (types|members|things|calls)\\.", " ");
        return words.replaceAll("[\\s.;:=]", "").isEmpty();
    }

    void end() {
        check.end();
    }

    private void run(String lines) {
        ReflectMirror x = new ReflectMirror();
        kept.clear();
        questions = null;
        int calls = 0;
        for (String line : lines.split("\n")) {
            String row = line.replaceAll("//.*", "").trim();
            if (row.isEmpty()) {
                continue;
            }
            calls++;
            int mark = Math.max(row.indexOf('='), row.indexOf('!'));
            if (mark < 0) {
                throw new IllegalArgumentException(label + ": neither = nor ! in " + row);
            }
            Spoken call = Spoken.of(row.substring(0, mark).trim());
            long want = Spoken.number(row.substring(mark + 1).trim());
            boolean refused = row.charAt(mark) == '!';
            if (refused) {
                refusals.add(call.text.substring(0, call.text.indexOf('(')) + " " + want);
                dueUnchanged(call, want);
            } else {
                kept.add(call);
                questions = null;
            }
            check.due(label + ": " + call.text, call.on(x), want);
        }
        check.due(label + ": at most 512 calls of one object", calls <= MOST_CALLS ? 1 : 0, 1);
    }

    private void dueUnchanged(Spoken call, long want) {
        if (questions == null) {
            questions = Picture.of(this::remade, MOST_CALLS - kept.size());
            before = answers(null, 0);
        }
        List<Long> after = answers(call, want);
        int at = 0;
        for (List<String> group : questions) {
            for (String question : group) {
                check.due(label + ": " + call.text + ", which changes nothing, then " + question, after.get(at), before.get(at));
                at++;
            }
        }
    }

    /** The answers to all questions, of as many objects as it takes: none is used for more than 512 calls. */
    private List<Long> answers(Spoken ahead, long want) {
        List<Long> answers = new ArrayList<>();
        ReflectMirror x = null;
        int left = 0;
        for (List<String> group : questions) {
            if (x == null || group.size() > left) {
                x = remade();
                left = MOST_CALLS - kept.size() - 1;
                if (ahead != null) {
                    check.due(label + ": " + ahead.text, ahead.on(x), want);
                }
                check.due(label + ": short enough to be looked at", group.size() <= left ? 1 : 0, 1);
            }
            for (String question : group) {
                answers.add(Spoken.of(question).on(x));
                left--;
            }
        }
        return answers;
    }

    private ReflectMirror remade() {
        ReflectMirror x = new ReflectMirror();
        for (Spoken call : kept) {
            call.on(x);
        }
        return x;
    }

    /** The form once for each of the values, which stand for #. */
    static String each(String form, long... values) {
        StringBuilder lines = new StringBuilder();
        for (long value : values) {
            lines.append(form.replace("#", Long.toString(value))).append('\n');
        }
        return lines.toString();
    }

    /** The form once for each number from the first to the last, which stand for #. */
    static String count(int first, int last, String form) {
        StringBuilder lines = new StringBuilder();
        for (int i = first; i <= last; i++) {
            lines.append(form.replace("#", Integer.toString(i))).append('\n');
        }
        return lines.toString();
    }

    static long f(float value) {
        return Float.floatToRawIntBits(value);
    }

    static long d(double value) {
        return Double.doubleToRawLongBits(value);
    }
}

import java.io.IOException;
import java.lang.reflect.Field;
import java.lang.reflect.Member;
import java.lang.reflect.Modifier;
import java.nio.file.Files;
import java.nio.file.Path;
import java.util.ArrayList;
import java.util.List;
import java.util.regex.Matcher;
import java.util.regex.Pattern;

/** The public face: the constants, the constructor and the methods that the document writes out, and nothing more. */
final class FaceTest {
    private static final Check check = new Check("FaceTest");
    private static final Class<?> CLASS = ReflectMirror.class;

    public static void main(String[] args) throws IOException, ReflectiveOperationException {
        String document = Files.readString(Path.of("../shared/DOC.md"));
        Matcher block = Pattern.compile("(?s)## The public face\\s+```java\\n(.*?)```").matcher(document);
        check.due("the document has the face", block.find() ? 1 : 0, 1);
        String[] rows = block.group(1).split("\n");
        check.due(rows[0], Modifier.toString(CLASS.getModifiers()).equals("public final") ? 1 : 0, 1);
        check.due("no package", CLASS.getPackageName().length(), 0);
        List<String> heads = new ArrayList<>();
        int constants = 0;
        for (int i = 1; i < rows.length - 1; i++) {
            String row = rows[i].trim();
            if (row.contains(" static final ")) {
                constants += constants(row);
            } else {
                heads.add(row.replace(";", ""));
            }
        }
        heads(heads);
        onlyPrivate("constant or field", CLASS.getDeclaredFields(), constants);
        onlyPrivate("constructor", CLASS.getDeclaredConstructors(), 1);
        onlyPrivate("method", CLASS.getDeclaredMethods(), heads.size() - 1);
        insides();
        check.end();
    }

    private static int constants(String row) throws ReflectiveOperationException {
        Matcher each = Pattern.compile("(\\w+) = (-?\\d+)").matcher(row);
        int count = 0;
        while (each.find()) {
            Field f = CLASS.getDeclaredField(each.group(1));
            check.due(f.getName() + " is " + row, Modifier.toString(f.getModifiers()).equals("public static final") ? 1 : 0, 1);
            check.due(f.getName(), f.getType() == int.class ? f.getInt(null) : Long.MIN_VALUE, Long.parseLong(each.group(2)));
            count++;
        }
        return count;
    }

    /** By the text, since a class file does not keep the names of parameters. */
    private static void heads(List<String> heads) throws IOException {
        String text = Files.readString(Path.of("src/main/java/ReflectMirror.java"));
        for (String head : heads) {
            check.due(head, text.contains("\n    " + head + " {\n") ? 1 : 0, 1);
        }
    }

    private static void onlyPrivate(String sort, Member[] members, int publicOnes) {
        int found = 0;
        for (Member m : members) {
            boolean isPublic = Modifier.isPublic(m.getModifiers());
            found += isPublic ? 1 : 0;
            check.due(sort + " " + m + " is public or private", isPublic || Modifier.isPrivate(m.getModifiers()) ? 1 : 0, 1);
        }
        check.due("how many are public, " + sort, found, publicOnes);
    }

    private static void insides() {
        for (Class<?> inside : CLASS.getDeclaredClasses()) {
            boolean isOpen = Modifier.isPublic(inside.getModifiers()) || Modifier.isProtected(inside.getModifiers());
            check.due(inside + " is static, and not public", Modifier.isStatic(inside.getModifiers()) && !isOpen ? 1 : 0, 1);
        }
    }
}

import java.lang.reflect.InvocationTargetException;
import java.lang.reflect.Method;
import java.util.HashMap;
import java.util.Map;

/** A call as a run writes it, for instance type(8, 0, false); MIN, MAX, LMIN, LMAX are the ends of int and long. */
final class Spoken {
    private static final Map<String, Spoken> KNOWN = new HashMap<>();
    final String text;
    private final Method method;
    private final Object[] arguments;

    private Spoken(String text) {
        this.text = text;
        int open = text.indexOf('(');
        if (open < 0 || !text.endsWith(")")) {
            throw new IllegalArgumentException("no call: " + text);
        }
        method = named(text.substring(0, open));
        String inside = text.substring(open + 1, text.length() - 1).trim();
        String[] words = inside.isEmpty() ? new String[0] : inside.split("\\s*,\\s*");
        Class<?>[] kinds = method.getParameterTypes();
        if (words.length != kinds.length) {
            throw new IllegalArgumentException("not so many arguments: " + text);
        }
        arguments = new Object[words.length];
        for (int i = 0; i < words.length; i++) {
            arguments[i] = argument(words[i], kinds[i]);
        }
    }

    static Spoken of(String text) {
        return KNOWN.computeIfAbsent(text, Spoken::new);
    }

    private static Method named(String name) {
        for (Method m : ReflectMirror.class.getDeclaredMethods()) {
            if (m.getName().equals(name) && java.lang.reflect.Modifier.isPublic(m.getModifiers())) {
                return m;
            }
        }
        throw new IllegalArgumentException("no such call: " + name);
    }

    private static Object argument(String word, Class<?> kind) {
        if (kind == boolean.class) {
            if (!word.equals("true") && !word.equals("false")) {
                throw new IllegalArgumentException("neither true nor false: " + word);
            }
            return word.equals("true");
        }
        long number = number(word);
        if (kind == long.class) {
            return number;
        }
        if (number != (int) number) {
            throw new IllegalArgumentException("no int: " + word);
        }
        return (int) number;
    }

    static long number(String word) {
        switch (word) {
            case "MIN": return Integer.MIN_VALUE;
            case "MAX": return Integer.MAX_VALUE;
            case "LMIN": return Long.MIN_VALUE;
            case "LMAX": return Long.MAX_VALUE;
            default: return Long.parseLong(word);
        }
    }

    long on(ReflectMirror x) {
        try {
            return ((Number) method.invoke(x, arguments)).longValue();
        } catch (InvocationTargetException e) {
            throw new IllegalStateException(text + " threw " + e.getCause(), e.getCause());
        } catch (IllegalAccessException e) {
            throw new IllegalStateException(text, e);
        }
    }
}

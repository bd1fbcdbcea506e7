import java.lang.reflect.InvocationTargetException;
import java.lang.reflect.Method;
import java.lang.reflect.Modifier;
import java.util.Arrays;
import java.util.HashMap;
import java.util.HashSet;
import java.util.Map;
import java.util.Set;

/**
 * The class against the document told a second time (Retold): runs of calls that Guesses makes up, mostly such as the
 * document takes, and each answer of the one must be that of the other.
 */
final class RetoldTest {
    private static final Check check = new Check("RetoldTest");
    private static final int RUNS = 2500;
    private static final int MOST_CALLS = 512;
    private static final Map<String, Method[]> FACE = new HashMap<>();
    /** Each call with each answer below 0 that it had, and with 0 for all others; what each cause() told. */
    private static final Set<String> seen = new HashSet<>();
    private static final Set<String> causes = new HashSet<>();

    public static void main(String[] args) throws ReflectiveOperationException {
        for (Method m : ReflectMirror.class.getDeclaredMethods()) {
            if (Modifier.isPublic(m.getModifiers())) {
                FACE.put(m.getName(), new Method[] {m, Retold.class.getDeclaredMethod(m.getName(), m.getParameterTypes())});
            }
        }
        for (int run = 0; run < RUNS; run++) {
            tell(run);
        }
        dueSeen();
        check.end();
    }

    private static void tell(int run) throws ReflectiveOperationException {
        ReflectMirror x = new ReflectMirror();
        Retold again = new Retold();
        Guesses guesses = new Guesses(again, run);
        for (int i = 0; i < MOST_CALLS; i++) {
            Object[] call = guesses.next(i);
            Method[] both = FACE.get((String) call[0]);
            Object[] arguments = arguments(call, both[0]);
            long got = ((Number) both[0].invoke(x, arguments)).longValue();
            long want = wanted(both[1], again, arguments);
            check.due("run " + run + ", call " + i + ", " + Arrays.toString(call), got, want);
            seen.add(call[0] + " " + Math.min(want, 0));
            if (call[0].equals("cause")) {
                causes.add(call[1] + " " + want);
            }
        }
    }

    private static Object[] arguments(Object[] call, Method m) {
        Object[] arguments = new Object[call.length - 1];
        for (int i = 0; i < arguments.length; i++) {
            Object given = call[i + 1];
            arguments[i] = m.getParameterTypes()[i] == long.class ? (Object) ((Number) given).longValue() : given;
        }
        return arguments;
    }

    private static long wanted(Method m, Retold again, Object[] arguments) throws ReflectiveOperationException {
        try {
            return ((Number) m.invoke(again, arguments)).longValue();
        } catch (InvocationTargetException e) {
            if (e.getCause() instanceof Retold.Answered refused) {
                return refused.answer;
            }
            throw e;
        }
    }

    /** Else the runs would show less than they seem to. */
    private static void dueSeen() {
        Refusals.OF_EACH_CALL.forEach((call, answers) -> {
            dueSeen(call, 0);
            for (long answer : answers) {
                dueSeen(call, answer);
            }
        });
        dueSeen("call", -19);
        for (int failure = 1; failure <= 10; failure++) {
            check.due("a call that ended by " + failure, failure == 9 || causes.contains("0 " + failure) ? 1 : 0, 1);
        }
        for (int within : new int[] {0, 1, 2, 3, 12}) {
            check.due("one that ended within " + within, causes.contains("2 " + within) ? 1 : 0, 1);
        }
    }

    private static void dueSeen(String call, long answer) {
        check.due(call + "() that answered " + answer, seen.contains(call + " " + answer) ? 1 : 0, 1);
    }
}

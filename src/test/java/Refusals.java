import java.util.LinkedHashMap;
import java.util.Map;

/** By what the document lets each call be refused or FAIL (-10 less the FAILURE) so that nothing changes. */
final class Refusals {
    static final Map<String, long[]> OF_EACH_CALL = new LinkedHashMap<>();

    static {
        all("type face rows", -1, -3);
        all("implement field method", -1, -2, -3);
        all("about ancestor is meet letter declared overrides open caller may slot kind cause count", -1);
        all("findField findMethod inForce thing", -2);
        all("body", -1, -2);
        all("member", -3);
        all("bits", Long.MIN_VALUE);
        all("object", -1, -3, -17);
        all("row", -1, -3, -15);
        all("get set call", -1, -11, -12, -16);
        all("item put", -1, -11, -12, -13);
        all("store", -1, -11, -13, -14, -18);
        all("copy", -1, -11, -13, -14);
    }

    private Refusals() { }

    private static void all(String calls, long... answers) {
        for (String call : calls.split(" ")) {
            OF_EACH_CALL.put(call, answers);
        }
    }
}

import java.io.IOException;

/** Every sentence of the document that names a case, each by a test of its own; and that none is left out. */
final class SentencesTest {
    public static void main(String[] args) throws IOException {
        Sentences s = new Sentences("SentencesTest");
        TypeSentences.tell(s);
        MemberSentences.tell(s);
        FindSentences.tell(s);
        BodySentences.tell(s);
        ThingSentences.tell(s);
        CallSentences.tell(s);
        s.dueQuoted("There from the first", "## Not promised");
        dueRefusals(s);
        s.end();
    }

    /** BAD, NO, FULL of each call that has them, and what it FAILS by: -10 less the FAILURE. */
    private static void dueRefusals(Sentences s) {
        for (String call : new String[] {"type", "face", "rows"}) {
            s.dueRefused(call, -1, -3);
        }
        for (String call : new String[] {"implement", "field", "method"}) {
            s.dueRefused(call, -1, -2, -3);
        }
        for (String call : new String[] {"about", "ancestor", "is", "meet", "letter", "declared", "overrides", "open", "caller",
            "may", "slot", "kind", "cause", "count"}) {
            s.dueRefused(call, -1);
        }
        for (String call : new String[] {"findField", "findMethod", "inForce", "thing"}) {
            s.dueRefused(call, -2);
        }
        s.dueRefused("body", -1, -2);
        s.dueRefused("member", -3);
        s.dueRefused("bits", Long.MIN_VALUE);
        s.dueRefused("object", -1, -3, -17);
        s.dueRefused("row", -1, -3, -15);
        for (String call : new String[] {"get", "set", "call"}) {
            s.dueRefused(call, -1, -16, -11, -12);
        }
        s.dueRefused("item", -1, -11, -12, -13);
        s.dueRefused("put", -1, -11, -12, -13);
        s.dueRefused("store", -1, -11, -18, -13, -14);
        s.dueRefused("copy", -1, -11, -14, -13);
    }
}

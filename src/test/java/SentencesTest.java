import java.io.IOException;

/** Every sentence of the document that names a case, each by a test of its own; and that none is left out. */
final class SentencesTest {
    public static void main(String[] args) throws IOException {
        Sentences s = new Sentences("SentencesTest");
        TypeSentences.tell(s);
        MemberSentences.tell(s);
        FindSentences.tell(s);
        BodySentences.tell(s);
        ThingSentences.tell(s);
        CallSentences.tell(s);
        s.dueQuoted("There from the first", "## Not promised");
        Refusals.OF_EACH_CALL.forEach(s::dueRefused);
        s.end();
    }
}

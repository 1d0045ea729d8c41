import java.io.IOException;

/** All sentences of the document, in its order, and that none of them is without a test. */
public final class SentencesTest {
    public static void main(String[] args) throws IOException {
        Check.mustEnd();
        Sentences s = new Sentences();
        LevelTerms.tell(s);
        LeapTerms.tell(s);
        ReachTerms.tell(s);
        TextTerms.tell(s);
        SavingTerms.tell(s);
        ExceptionTerms.tell(s);
        LevelPromises.tell(s);
        RunnerPromises.tell(s);
        TextPromises.tell(s);
        SavingPromises.tell(s);
        LookPromises.tell(s);
        LeapPromises.tell(s);
        ReachPromises.tell(s);
        DigestPromise.tell(s);
        s.check();
        Document.compare(s);
        Check.end();
    }
}

import java.io.IOException;

/** Each sentence of the document, with the edges that it names and the calls that it refuses. */
public final class SentencesTest {
    private SentencesTest() {
    }

    public static void main(String[] args) throws IOException {
        Checks checks = new Checks();
        Sentences sentences = new Sentences(checks);
        ReadingTerms.all(sentences);
        LineTerms.all(sentences);
        BatchTerms.all(sentences);
        ReadingPromises.all(sentences);
        BatchPromises.all(sentences);
        sentences.close();
        checks.close();
    }
}

import java.io.IOException;

/** Every sentence of the document with a test of its own, above all those that name a boundary. */
public final class SentencesTest {
    private SentencesTest() {
    }

    public static void main(String[] args) throws IOException {
        Sentences s = new Sentences();
        new HouseSentences(s).look();
        new FireSentences(s).look();
        new QuestionSentences(s).look();
        new RefusalSentences(s).look();
        new PromiseSentences(s).look();
        s.end();
    }
}

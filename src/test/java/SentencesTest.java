import java.io.IOException;
import java.nio.file.Path;

/** Every sentence of the document, its boundary cases above all: each test names the promise and the sentence. */
public final class SentencesTest {
    public static void main(String[] args) throws IOException {
        Sentences s = new Sentences(Path.of("../shared/DOC.md"));
        new TextSentences(s).run();
        new DaySentences(s).run();
        new ShouldBeSentences(s).run();
        new CraterSentences(s).run();
        new ChangeSentences(s).run();
        new RefusalSentences(s).run();
        s.end();
    }
}

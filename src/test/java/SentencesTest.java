import java.io.IOException;
import java.nio.file.Path;

/** Each sentence of the document that names a boundary case, tested by itself; and no sentence is left out. */
public final class SentencesTest {
    public static void main(String[] args) throws IOException {
        Checks checks = new Checks();
        Document document = new Document(Path.of("../shared/DOC.md"), checks);
        Sentences[] parts = {new StoneSentences(document), new QuarrySentences(document), new WallSentences(document),
            new HeartingSentences(document), new FillingSentences(document), new LoadSentences(document),
            new ArchSentences(document), new GapSentences(document), new YardSentences(document)};
        for (Sentences part : parts) {
            part.all();
        }
        document.dueWhole();
        checks.end();
    }
}

import java.io.IOException;
import java.nio.file.Path;

/** Every sentence of ../shared/DOC.md, each in a test that bears its words; run from the project's folder. */
public final class SentencesTest {
    public static void main(String[] args) throws IOException {
        Sentences doc = new Sentences(Path.of("../shared/DOC.md"));
        doc.nothingDueIn("PieceSets");
        // Its code is for FaceTest.
        doc.nothingDueIn("The public face");
        KindsSentences.test(doc);
        BufferSentences.test(doc);
        StatesSentences.test(doc);
        ChangingSentences.test(doc);
        AskingSentences.test(doc);
        BytesSentences.test(doc);
        ComparingSentences.test(doc);
        HistorySentences.test(doc);
        doc.nothingDueIn("Not promised");
        doc.end();
    }
}

import java.io.IOException;
import java.nio.file.Path;

/** Each sentence of the document's sections and promises has a test of its own; none of its words may be left out. */
public final class SentencesTest {
    public static void main(String[] args) throws IOException {
        Document document = new Document(Path.of(System.getProperty("document", "../shared/DOC.md")));
        new PolygonSentences(document).all();
        new SightSentences(document).all();
        new TriangleSentences(document).all();
        new FewestSentences(document).all();
        new GuardSentences(document).all();
        new MapSentences(document).all();
        new TextSentences(document).all();
        new RuleSentences(document).all();
        new GuardChangeSentences(document).all();
        new VertexChangeSentences(document).all();
        new UndoSentences(document).all();
        Probe.due("the words that no test quotes", document.unquoted(), "[]");
        Probe.end("SentencesTest");
    }
}

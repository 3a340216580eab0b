import java.io.IOException;

/** Each sentence of the document has a test of its own, and each word of it is in such a sentence. */
public final class EdgeTest {
    public static void main(String[] args) throws IOException {
        Sentences doc = new Sentences();
        new TermEdges(doc).run();
        new TapeEdges(doc).run();
        new RefusalEdges(doc).run();
        new DeedEdges(doc).run();
        new AskEdges(doc).run();
        new TogetherEdges(doc).run();
        new WouldEdges(doc).run();
        doc.end();
        Due.end();
    }
}

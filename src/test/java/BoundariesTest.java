import java.io.IOException;

/** For each sentence of the document's terms and promises a test of its own, of the cases at its boundary. */
public final class BoundariesTest {
    public static void main(String[] args) throws IOException {
        Sentences sentences = new Sentences();
        new TermsBoundaries(sentences).run();
        new StoresBoundaries(sentences).run();
        new ElementsBoundaries(sentences).run();
        new RecordsBoundaries(sentences).run();
        new ReckoningBoundaries(sentences).run();
        sentences.end();
    }
}

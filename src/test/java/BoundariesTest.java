import java.io.IOException;

/** Every sentence of the document that names a boundary case, in tests of its own: see Sentences. */
public final class BoundariesTest {
    private BoundariesTest() {
    }

    public static void main(String[] args) throws IOException {
        Sentences doc = new Sentences();
        new BoundariesOfTexts(doc).ask();
        new BoundariesOfReading(doc).ask();
        new BoundariesOfNumbers(doc).ask();
        new BoundariesOfMarks(doc).ask();
        new BoundariesOfRuns(doc).ask();
        new BoundariesOfChains(doc).ask();
        new BoundariesOfGroups(doc).ask();
        doc.end();
    }
}

import java.nio.file.Path;

/** A test for each sentence of the document, above all at the boundaries that it names. */
public final class BoundariesTest {
    private BoundariesTest() {
    }

    public static void main(String[] args) throws Exception {
        TermsBoundaries.run();
        StateBoundaries.run();
        ChangesBoundaries.run();
        TextsBoundaries.run();
        QuestionsBoundaries.run();
        TracesBoundaries.run();
        Sentences.checkDocument(Path.of("..", "shared", "DOC.md"));
        Check.end("BoundariesTest");
    }
}

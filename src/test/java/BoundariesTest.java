import java.io.IOException;

/** Each sentence of the document by itself, at the boundaries that it names. */
public final class BoundariesTest {
    private BoundariesTest() {
    }

    public static void main(String[] args) throws IOException {
        Checks checks = new Checks("BoundariesTest");
        Sentences sentences = new Sentences(checks);
        Part[] parts = {new RefusalsPart(checks, sentences), new PiecePart(checks, sentences),
            new PlansPart(checks, sentences), new BestPart(checks, sentences), new SeenPart(checks, sentences),
            new SheetsPart(checks, sentences)};
        for (Part part : parts) {
            part.show();
        }
        sentences.end();
        checks.end();
    }
}

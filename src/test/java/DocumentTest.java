import java.io.IOException;

/** The document from its first line to its last: each sentence is quoted by a test that holds the class to it. */
public final class DocumentTest {
    private static final Checks CHECKS = new Checks();

    public static void main(String[] args) throws IOException {
        Document document = new Document(CHECKS);
        Face.all(document);
        Workshop.all(document);
        FoldEdges.all(document);
        DyeEdges.all(document);
        PictureEdges.all(document);
        Refusals.all(document);
        document.isQuotedWhole();
        CHECKS.end();
    }
}

import java.nio.file.Path;

/** Every sentence of the document that names a boundary, tried at it, within it and beyond it. */
public final class EdgesTest {
    public static void main(String[] args) throws Exception {
        String path = System.getenv("NAMED_FOUNTAINS_DOCUMENT");
        if (path == null) {
            System.out.println("EdgesTest: no NAMED_FOUNTAINS_DOCUMENT, so the sentences are not looked up");
        }
        Edge edge = new Edge(path == null ? null : new Document(Path.of(path)));
        new TermsEdges(edge).run();
        new KindsEdges(edge).run();
        new DayEdges(edge).run();
        new TextEdges(edge).run();
        new TownEdges(edge).run();
        new DaysEdges(edge).run();
        new BestEdges(edge).run();
        new SheetsEdges(edge).run();
        new ImagesEdges(edge).run();
        edge.end();
    }
}

/** Every sentence of the document that names a boundary, tried at it, within it and beyond it. */
public final class EdgesTest {
    public static void main(String[] args) throws Exception {
        Edge edge = new Edge(new Document(Project.document()));
        new StoryEdges(edge).run();
        new TermsEdges(edge).run();
        new KindsEdges(edge).run();
        new DayEdges(edge).run();
        new TextEdges(edge).run();
        new TownEdges(edge).run();
        new DaysEdges(edge).run();
        new BestEdges(edge).run();
        new SheetsEdges(edge).run();
        new ImagesEdges(edge).run();
        edge.end();
    }
}

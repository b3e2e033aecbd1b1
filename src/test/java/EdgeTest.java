import java.io.IOException;

/** Each sentence of the document that names a boundary case, with a test of its own. */
public final class EdgeTest {
    public static void main(String[] args) throws IOException {
        Edge edge = new Edge();
        new RefusalEdges(edge).run();
        new SheetEdges(edge).run();
        new TextEdges(edge).run();
        new LineEdges(edge).run();
        new DoorEdges(edge).run();
        new PersonEdges(edge).run();
        new BookEdges(edge).run();
        new AskEdges(edge).run();
        edge.end();
    }
}

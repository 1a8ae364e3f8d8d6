import java.io.IOException;

/** Each sentence of the document that names a boundary case, with a test of its own. */
public final class EdgeTest {
    public static void main(String[] args) throws IOException {
        Edges.begin();
        RefusedEdges.run();
        CascadeEdges.run();
        MonthEdges.run();
        TextEdges.run();
        AnswerEdges.run();
        AheadEdges.run();
        UndoEdges.run();
        Edges.finish();
        Check.finish("EdgeTest");
    }
}

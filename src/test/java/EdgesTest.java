/** For each sentence of the document that names a boundary case a test of its own. */
public final class EdgesTest {
    public static void main(String[] args) throws Exception {
        Edges edges = new Edges("EdgesTest");
        new TextEdges(edges).run();
        new TermEdges(edges).run();
        new CallEdges(edges).run();
        edges.nothingLeft("## Terms", "## Not promised");
        edges.end();
    }
}

/** Promises 1 to 18, clause by clause: too small, too large, empty, full, wrapped around, refused. */
public final class EdgesTest {
    public static void main(String[] args) {
        Due due = new Due("EdgesTest");
        Edges edges = new Edges(due, Document.read("../shared/DOC.md"));
        LoafEdges.run(edges);
        OvenEdges.run(edges);
        RestEdges.run(edges);
        FoldEdges.run(edges);
        LayEdges.run(edges);
        BakeEdges.run(edges);
        ShopEdges.run(edges);
        BookEdges.run(edges);
        CodeEdges.run(edges);
        edges.end();
        due.end();
    }
}

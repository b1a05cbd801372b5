/** All promises, sentence by sentence: each edge that the document names, and each refused call. */
final class EdgesTest {
    public static void main(String[] args) {
        Check check = new Check("EdgesTest");
        Edges edges = new Edges(check);
        WholeEdges.run(edges);
        HitsEdges.run(edges);
        RowsEdges.run(edges);
        DrawnEdges.run(edges);
        ComparesEdges.run(edges);
        TrialEdges.run(edges);
        edges.end();
        check.end();
    }
}

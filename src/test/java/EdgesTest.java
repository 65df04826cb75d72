/** The sentences of the document that name an edge, each with a test of its own: promises 1 to 28 and the terms. */
public final class EdgesTest {
    public static void main(String[] args) {
        HorseEdges.run();
        TextEdges.run();
        MeetEdges.run();
        PlanEdges.run();
        BinEdges.run();
        BillEdges.run();
        Edge.everyPromiseIsNamed();
        Check.end();
    }
}

/** The boundary cases that the document names, promise by promise, each as a test of its own. */
public final class EdgesTest {
    public static void main(String[] args) {
        Edges.runAll(TextEdges.class, ProgramEdges.class, TaskEdges.class, RunEdges.class, SpyEdges.class,
            TradeEdges.class, CurveEdges.class, OpenEdges.class, MonthEdges.class, WeightEdges.class);
    }
}

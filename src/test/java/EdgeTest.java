/** Each sentence of the document that names an edge, as a test of its own. */
public final class EdgeTest {
    private EdgeTest() { }

    public static void main(String[] args) {
        Edges.runAll(TapeEdges.class, HouseEdges.class, RuleEdges.class, HourEdges.class, ActEdges.class, AskEdges.class,
                BestEdges.class, NightEdges.class);
        Edges.close();
    }
}

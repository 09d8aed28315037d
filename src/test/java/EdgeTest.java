public final class EdgeTest {
    public static void main(String[] args) {
        TermEdges.all();
        AheadEdges.all();
        PromiseEdges.all();
        System.out.println(Edges.tests + " tests, " + Edges.answers + " answers, " + Edges.wrong + " wrong");
        if (Edges.wrong != 0) {
            System.exit(1);
        }
    }
}

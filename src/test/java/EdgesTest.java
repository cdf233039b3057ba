/** For each sentence of the document a test of its own, with the boundary cases that the sentence names. */
public final class EdgesTest {
    private EdgesTest() {
    }

    public static void main(String[] args) {
        Checks.limitTime();
        UseEdges.all();
        TermEdges.all();
        CommandEdges.all();
        ChangeEdges.all();
        ReasonEdges.all();
        LawnEdges.all();
        ChairEdges.all();
        HerdEdges.all();
        DayEdges.all();
        TotalEdges.all();
        TextEdges.all();
        HistoryEdges.all();
        Edges.demandEverySentence();
        Checks.report();
    }
}

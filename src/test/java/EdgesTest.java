/** Each sentence of the document at its edges: promises 1 to 41, and the Terms that they use. */
public final class EdgesTest {
    private EdgesTest() {
    }

    public static void main(String[] args) {
        RowEdges.all();
        TextEdges.all();
        ActEdges.all();
        ForetoldEdges.all();
        GuessEdges.all();
        AskEdges.all();
        Edge.end();
        Check.end();
    }
}

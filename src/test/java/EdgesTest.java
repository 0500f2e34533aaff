/** Each sentence of the document at its edges: promises 1 to 41, and the Terms that they use. */
public final class EdgesTest {
    /** They take some two seconds. */
    private static final long LONGEST = 120_000;

    private EdgesTest() {
    }

    public static void main(String[] args) {
        Thread watch = new Thread(EdgesTest::endWhatDoesNotEnd);
        watch.setDaemon(true);
        watch.start();
        RowEdges.all();
        TextEdges.all();
        ActEdges.all();
        ForetoldEdges.all();
        GuessEdges.all();
        AskEdges.all();
        Edge.end();
        Check.end();
    }

    private static void endWhatDoesNotEnd() {
        try {
            Thread.sleep(LONGEST);
        } catch (InterruptedException e) {
            return;
        }
        Check.due("a call that does not end", 1, 0);
        Runtime.getRuntime().halt(1);
    }
}

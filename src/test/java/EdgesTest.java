import java.io.IOException;

/** Each sentence of the document that names a boundary, with a test that is named by it. */
public final class EdgesTest {
    private EdgesTest() {
    }

    public static void main(String[] args) throws IOException {
        Sentences.load();
        TextEdges.all();
        GrammarEdges.all();
        FaultEdges.all();
        InputEdges.all();
        NumberEdges.all();
        RunEdges.all();
        SlopeEdges.all();
        MoveEdges.all();
        KeeperEdges.all();
        Sentences.dueAllParts();
        Check.finish();
    }
}

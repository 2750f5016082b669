import java.io.IOException;

/** A test for each sentence of the document that names an edge; what is tested is quoted from it. */
public final class EdgesTest {
    private EdgesTest() {
    }

    public static void main(String[] args) throws IOException {
        Edge.readDocument();
        SheetEdges.run();
        SwitchEdges.run();
        ToldEdges.run();
        RuleEdges.run();
        AskedEdges.run();
        Edge.checkAllQuoted();
        Check.end("EdgesTest");
    }
}

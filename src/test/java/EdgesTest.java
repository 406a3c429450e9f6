import java.io.IOException;

/** A test of its own for each sentence of the document that names an edge; .ci/run starts it in the project's folder. */
public final class EdgesTest {
    public static void main(String[] args) throws IOException {
        EdgesOfBlocks.run();
        EdgesOfOrders.run();
        EdgesOfFacts.run();
        EdgesOfCalls.run();
        Edge.checkDocument();
        Check.finish("EdgesTest");
    }
}

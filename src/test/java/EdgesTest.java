import java.io.IOException;

/** A test for each sentence of the document, by the edges that it names or that it has. */
public final class EdgesTest {
  private EdgesTest() {}

  public static void main(String[] args) throws IOException {
    Edges edges = new Edges();
    TextEdges.test(edges);
    FunctionEdges.test(edges);
    ModelEdges.test(edges);
    CubeEdges.test(edges);
    MachineEdges.test(edges);
    FamilyEdges.test(edges);
    FigureEdges.test(edges);
    TermEdges.test(edges);
    edges.end();
    Check.end("EdgesTest");
  }
}

import java.io.IOException;
import java.nio.file.Path;

/** Each sentence of the document, at its edges: what is still taken and what is refused, empty, full, around. */
public final class EdgeTest {
    public static void main(String[] args) throws IOException {
        Edges edges = new Edges(Path.of(args[1]));
        new TermEdges(edges).test();
        new PlateEdges(edges).test();
        new DoneEdges(edges).test();
        new WouldBeEdges(edges).test();
        new SeenEdges(edges).test();
        new ToldEdges(edges).test();
        edges.end("EdgeTest");
    }
}

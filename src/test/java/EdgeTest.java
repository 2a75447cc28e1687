import java.io.IOException;
import java.nio.file.Path;

/** Each sentence of the document that names a bound, an edge or a refusal, at that edge and on both its sides. */
public final class EdgeTest {
    public static void main(String[] args) throws IOException {
        Check check = new Check("EdgeTest");
        Document document = new Document(Path.of(args.length > 1 ? args[1] : "../shared/DOC.md"));
        Edges edges = new Edges(check, document);
        new PortEdges(edges).play();
        new NightEdges(edges).play();
        new AheadEdges(edges).play();
        new ChanceEdges(edges).play();
        new Refusals(edges).play();
        document.requireBounds(check);
        check.end();
    }
}

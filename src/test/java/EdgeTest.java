import java.io.IOException;
import java.nio.file.Path;

/** Each sentence of the document, at the bounds and edges that it names and on both their sides. */
public final class EdgeTest {
    public static void main(String[] args) throws IOException {
        Check check = new Check("EdgeTest");
        Path source = Path.of(args.length > 0 ? args[0] : "src/main/java/SleepHarbour.java");
        Document document = new Document(Path.of(args.length > 1 ? args[1] : "../shared/DOC.md"));
        Edges edges = new Edges(check, document);
        new FaceEdges(edges, source).play();
        new PrefaceEdges(edges).play();
        new PortEdges(edges).play();
        new NightEdges(edges).play();
        new AheadEdges(edges).play();
        new ChanceEdges(edges).play();
        new Refusals(edges).play();
        document.requireWords(check);
        check.end();
    }
}

import java.nio.file.Files;
import java.nio.file.Path;

/** For each sentence of the document that names an edge, a test of its own. Its second argument is the document. */
final class EdgeTest {
    public static void main(String[] args) throws Exception {
        Check check = new Check("EdgeTest");
        Edges edges = new Edges(check);
        TermsEdges.run(edges);
        TextEdges.run(edges);
        UndoEdges.run(edges);
        ChangeEdges.run(edges);
        RevelEdges.run(edges);
        LookEdges.run(edges);
        if (args.length > 1 && Files.isReadable(Path.of(args[1]))) {
            new Document(Path.of(args[1])).check(check, edges.quotes());
        } else {
            System.out.println("EdgeTest: the document is not here; whether each sentence is quoted is not looked at");
        }
        check.end();
    }
}

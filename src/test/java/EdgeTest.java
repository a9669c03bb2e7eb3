import java.io.IOException;
import java.nio.file.Files;
import java.nio.file.Path;

/** What each sentence of the document says of edges; see Edges, and EdgeRows and its like for the tests. */
public final class EdgeTest {
    private static final Path DOCUMENT = Path.of("..", "shared", "DOC.md");

    private EdgeTest() {
    }

    public static void main(String[] args) throws IOException {
        Due due = new Due("EdgeTest");
        Edges edges = new Edges(due);
        EdgeRows.addTo(edges);
        EdgeTexts.addTo(edges);
        EdgeTurns.addTo(edges);
        EdgeLoaves.addTo(edges);
        EdgeWhy.addTo(edges);
        EdgeChanges.addTo(edges);
        EdgeSlips.addTo(edges);
        EdgeTold.addTo(edges);
        for (int promise = 1; promise <= Edges.PROMISES; promise++) {
            due.is("promise " + promise + ": has a test of its own", edges.testsOf(promise) > 0, true);
        }
        holdAgainstDocument(due, edges);
        System.out.println("EdgeTest: " + edges.sentences().size() + " tests");
        due.end();
    }

    /** A test that bears the name of a sentence which the document does not have tests nothing. */
    private static void holdAgainstDocument(Due due, Edges edges) throws IOException {
        if (!Files.exists(DOCUMENT)) {
            return;
        }
        String document = Files.readString(DOCUMENT).replaceAll("\\s+", " ");
        for (String sentence : edges.sentences()) {
            for (String part : sentence.split(" \\.\\.\\. ")) {
                due.is("'" + part + "' stands in the document", document.contains(part), true);
            }
        }
    }
}

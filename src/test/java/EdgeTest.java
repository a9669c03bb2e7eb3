import java.io.IOException;

/** What each sentence of the document says of edges; see Edges, and EdgeRows and its like for the tests. */
public final class EdgeTest {
    private EdgeTest() {
    }

    public static void main(String[] args) throws IOException {
        Due due = new Due("EdgeTest");
        Edges edges = new Edges(due);
        addTo(edges);
        edges.holdPromises();
        new Document().holdQuotes(due, edges.sentences());
        System.out.println("EdgeTest: " + edges.sentences().size() + " tests");
        due.end();
    }

    static void addTo(Edges edges) {
        EdgeRows.addTo(edges);
        EdgeTexts.addTo(edges);
        EdgeTurns.addTo(edges);
        EdgeLoaves.addTo(edges);
        EdgeWhy.addTo(edges);
        EdgeChanges.addTo(edges);
        EdgeSlips.addTo(edges);
        EdgeTold.addTo(edges);
    }
}

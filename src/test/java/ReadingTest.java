import java.io.IOException;
import java.util.ArrayList;
import java.util.List;

/**
 * The document from its first line to its last: each term and each promise with its whole text and ordinary inputs. At the
 * end each word of the terms and promises must be quoted by a test of its own, here or in EdgeTest.
 */
public final class ReadingTest {
    private ReadingTest() {
    }

    public static void main(String[] args) throws IOException {
        Due due = new Due("ReadingTest");
        Edges read = new Edges(due);
        ReadTerms.addTo(read);
        ReadTurns.addTo(read);
        ReadRows.addTo(read);
        ReadLoaves.addTo(read);
        ReadWhy.addTo(read);
        ReadSlips.addTo(read);
        ReadTold.addTo(read);
        read.holdPromises();
        Document document = new Document();
        document.holdQuotes(due, read.sentences());
        for (String piece : document.unquoted(allSentences(read))) {
            due.is("'" + piece + "' is quoted by a test", false, true);
        }
        System.out.println("ReadingTest: " + read.sentences().size() + " tests");
        due.end();
    }

    private static List<String> allSentences(Edges read) {
        Edges edges = Edges.ofNames();
        EdgeTest.addTo(edges);
        List<String> all = new ArrayList<>(read.sentences());
        all.addAll(edges.sentences());
        return all;
    }
}

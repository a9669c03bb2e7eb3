import java.util.ArrayList;
import java.util.List;
import java.util.function.Consumer;

/** Tests of single sentences of the document, each on a LoafFall of its own, named by promise and sentence. */
final class Edges {
    static final int PROMISES = 48;

    private final Due due;
    private final int[] tests = new int[PROMISES + 1];
    private final List<String> sentences = new ArrayList<>();

    Edges(Due due) {
        this.due = due;
    }

    /** One that runs no test and only takes down which sentences have one. */
    static Edges ofNames() {
        return new Edges(null);
    }

    void test(int promise, String sentence, Consumer<Run> calls) {
        if (due != null) {
            Run run = new Run(due, "promise " + promise + ", '" + sentence + "'");
            calls.accept(run);
            run.end();
        }
        tests[promise]++;
        sentences.add(sentence);
    }

    void holdPromises() {
        for (int promise = 1; promise <= PROMISES; promise++) {
            due.is("promise " + promise + ": has a test of its own", tests[promise] > 0, true);
        }
    }

    List<String> sentences() {
        return sentences;
    }
}

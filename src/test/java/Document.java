import java.io.IOException;
import java.nio.file.Files;
import java.nio.file.Path;
import java.util.ArrayList;
import java.util.List;
import java.util.TreeSet;
import java.util.regex.Matcher;
import java.util.regex.Pattern;

/** ../shared/DOC.md, that tests quote: a sentence is quoted as it stands there, its parts joined by " ... ". */
final class Document {
    private static final Path PLACE = Path.of("..", "shared", "DOC.md");
    /** Headings, what stands between parts, and each call's face, that FaceTest holds the class to. */
    private static final Pattern FRAME = Pattern.compile("## Terms|## Promise \\d+: [A-Za-z ]+?(?= `)|======== \\d"
            + "|```text|`((int|long) )?[A-Za-z]+\\([^)]*\\)`:"
            + "|Ahead of the calls [^.]* the interface says: ---- \\d [a-z, ]+\\.");

    private final String all;

    Document() throws IOException {
        all = Files.readString(PLACE).replaceAll("\\s+", " ");
    }

    private static String[] partsOf(String sentence) {
        return sentence.split(" \\.\\.\\. ");
    }

    /** The public face: constants as "BAD -1", methods as "int row(int,int)". */
    TreeSet<String> face() {
        String block = all.substring(all.indexOf("```java"), all.indexOf("## Terms"));
        TreeSet<String> members = new TreeSet<>();
        for (Matcher m = Pattern.compile("([A-Z]+) = (-?\\d+)").matcher(block); m.find();) {
            members.add(m.group(1) + " " + m.group(2));
        }
        for (Matcher m = Pattern.compile("public (int|long) ([a-z]+)\\(([^)]*)\\);").matcher(block); m.find();) {
            String types = m.group(3).replaceAll(" [a-z]+(, )?", ",").replaceAll(",$", "");
            members.add(m.group(1) + " " + m.group(2) + "(" + types + ")");
        }
        return members;
    }

    /** A test that bears the name of a sentence which the document does not have tests nothing. */
    void holdQuotes(Due due, List<String> sentences) {
        for (String sentence : sentences) {
            for (String part : partsOf(sentence)) {
                due.is("'" + part + "' stands in the document", all.contains(part), true);
            }
        }
    }

    /** What of the terms and promises no sentence quotes. */
    List<String> unquoted(List<String> sentences) {
        String promised = all.substring(all.indexOf("## Terms"), all.indexOf("## Not promised"));
        StringBuilder left = new StringBuilder(promised);
        for (Matcher frame = FRAME.matcher(promised); frame.find();) {
            strike(left, frame.start(), frame.end());
        }
        for (String sentence : sentences) {
            for (String part : partsOf(sentence)) {
                for (int i = promised.indexOf(part); i >= 0; i = promised.indexOf(part, i + 1)) {
                    strike(left, i, i + part.length());
                }
            }
        }
        List<String> pieces = new ArrayList<>();
        for (String piece : left.toString().split("\n+")) {
            if (piece.matches(".*[A-Za-z0-9].*")) {
                pieces.add(piece.strip());
            }
        }
        return pieces;
    }

    private static void strike(StringBuilder text, int from, int to) {
        for (int i = from; i < to; i++) {
            text.setCharAt(i, '\n');
        }
    }
}

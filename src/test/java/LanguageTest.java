import java.nio.file.Files;
import java.nio.file.Path;
import java.util.List;
import java.util.regex.Matcher;
import java.util.regex.Pattern;

/** Those rules of LANGUAGE.md that can be seen in the text of the program (args: its path). */
public final class LanguageTest {
    private static final String[] NEVER = {
        "\\bthrow\\b", "\\btry\\b", "\\bcatch\\b", "\\bsynchronized\\b", "\\bassert\\b", "::", "\\bprotected\\b",
        "\\bhashCode\\b", "\\btoString\\b", "\\bSystem\\.(?!arraycopy)", "Exact\\b", "\\bThread\\b", "\\bRandom\\b",
        "^package\\b", "\\bstatic\\s*\\{", "\\bnew\\s+\\w+\\s*\\([^)]*\\)\\s*\\{", "\\bdouble\\b", "\\bfloat\\b",
        "\\bgoto\\b", "\\[\\]\\[\\]"};
    private static final int METHOD_LINES = 60, PARAMETERS = 7;

    public static void main(String[] args) throws Exception {
        Due due = new Due("LanguageTest");
        String path = args.length > 0 ? args[0] : "src/main/java/LoafFall.java";
        String text = Files.readString(Path.of(path));
        String code = text.replaceAll("(?s)/\\*.*?\\*/", "").replaceAll("//[^\n]*", "");
        for (String never : NEVER) {
            Matcher m = Pattern.compile(never, Pattern.MULTILINE).matcher(code);
            due.is("not in the program: " + never, m.find() ? m.group() : "", "");
        }
        Matcher imports = Pattern.compile("^import (.*);", Pattern.MULTILINE).matcher(code);
        while (imports.find()) {
            due.is("an import", imports.group(1), "java.util.Arrays");
        }
        due.is("signs of the text", text.chars().allMatch(c -> c == '\n' || c >= 32 && c < 127), true);
        due.is("public classes", count(code, "\\bpublic (final )?class\\b"), 1);
        checkStatics(due, code);
        checkMethods(due, code.lines().toList());
        due.end();
    }

    private static int count(String code, String pattern) {
        return (int) Pattern.compile(pattern).matcher(code).results().count();
    }

    /** Static fields are constants of int (or arrays of int, written out), and final. */
    private static void checkStatics(Due due, String code) {
        Matcher m = Pattern.compile("\\bstatic (?!final class|\\w+ \\w+\\()([^=;{(]*)[=;]").matcher(code);
        while (m.find()) {
            due.is("a static field: " + m.group(1), m.group(1).matches("final int(\\[\\])? \\w+ "), true);
        }
    }

    /** By the file's own layout: a method's head ends in ") {" at the depth of a class, its end is "}" there. */
    private static void checkMethods(Due due, List<String> lines) {
        Pattern head = Pattern.compile("^(    |        )(?! )[\\w\\[\\] ]+\\(([^)]*)\\) \\{$");
        for (int i = 0; i < lines.size(); i++) {
            Matcher m = head.matcher(lines.get(i));
            if (!m.matches()) {
                continue;
            }
            int end = i;
            while (!lines.get(end).equals(m.group(1) + "}")) {
                end++;
            }
            String name = lines.get(i).trim();
            due.is("short: " + name, end - i + 1 <= METHOD_LINES, true);
            due.is("few parameters: " + name, m.group(2).split(",").length <= PARAMETERS, true);
        }
    }
}

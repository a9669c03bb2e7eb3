import java.lang.reflect.Method;
import java.lang.reflect.Modifier;
import java.nio.file.Files;
import java.nio.file.Path;
import java.util.regex.Matcher;
import java.util.regex.Pattern;

/** README.md shows calls with their answers, and tells each call and each constant. */
public final class ReadmeTest {
    private static final Pattern SHOWN = Pattern.compile("x\\.([a-z]+\\([^;]*\\)); *// (-?\\d+)");
    private static final int SHOWN_AT_LEAST = 20;

    private ReadmeTest() {
    }

    public static void main(String[] args) throws Exception {
        Due due = new Due("ReadmeTest");
        String page = Files.readString(Path.of("README.md"));
        due.is("calls shown", shownAnswer(due, page) >= SHOWN_AT_LEAST, true);
        for (Method m : LoafFall.class.getDeclaredMethods()) {
            if (Modifier.isPublic(m.getModifiers())) {
                due.is(m.getName() + "() is told", page.contains("`" + m.getName() + "("), true);
            }
        }
        String[] names = {"BAD", "FULL", "STATE", "SPENT", "FINDING", "NONE"};
        for (String name : names) {
            Object value = LoafFall.class.getField(name).get(null);
            due.is(name + " is told", page.contains("`" + name + "` " + value + " "), true);
        }
        due.end();
    }

    private static int shownAnswer(Due due, String page) {
        Run run = new Run(due, "README.md");
        int shown = 0;
        for (Matcher m = SHOWN.matcher(page); m.find();) {
            run.is(withNumbers(m.group(1)), Long.parseLong(m.group(2)));
            shown++;
        }
        run.end();
        return shown;
    }

    /** 'r' is 114. */
    private static String withNumbers(String call) {
        return Pattern.compile("'(.)'").matcher(call).replaceAll(m -> Integer.toString(m.group(1).charAt(0)));
    }
}

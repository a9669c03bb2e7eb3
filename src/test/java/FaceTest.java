import java.lang.reflect.Constructor;
import java.lang.reflect.Field;
import java.lang.reflect.Method;
import java.lang.reflect.Modifier;
import java.util.Arrays;
import java.util.TreeSet;

/** The class has the document's face and no other member that could be seen from outside. */
public final class FaceTest {
    private static final String[] METHODS = {
        "int row(int,int)", "int lay(int,int,int)", "int at(int,int)", "int tear(int)",
        "int copy(int,int,int,int,int)", "int mean(int)", "int text(int,int)", "int put(int,int,int)",
        "int fault(int,boolean)", "int flour(int,int)", "int doing(int,int)", "int about(int,int)",
        "int step(int,int)", "int loaf(int,int)", "int go(int)", "int cell(int,int)", "int fall(int,int)",
        "int mark(int,int)", "int keep(int)", "int on(int)", "int height()", "int holes()", "int cut(int)",
        "int rests(int)", "int why(int)", "int odds(int,int)", "int sprout(int,int,int)",
        "int rack(int,int,int)", "int change()", "int changes()", "int wide(int)", "int flours(int)",
        "int begin(int)", "int oven(int)", "int even()", "int slip(int,int)", "int told(int,int)",
        "int law(int)", "int spans(int,int,int,boolean)", "int foretell(int,int)", "int asked()",
        "long upper()", "long lower()", "int count(int)", "int finding()", "int findings(int)",
        "long digest()"};
    private static final String[] CONSTANTS = {
        "BAD -1", "FULL -2", "FINDING -3", "STATE -4", "SPENT -6", "NONE -9"};

    public static void main(String[] args) throws Exception {
        Due due = new Due("FaceTest");
        due.is("public final", Modifier.toString(LoafFall.class.getModifiers()), "public final");
        due.is("methods", seenMethods().toString(), new TreeSet<>(Arrays.asList(METHODS)).toString());
        due.is("constants", seenFields().toString(), new TreeSet<>(Arrays.asList(CONSTANTS)).toString());
        TreeSet<String> all = seenMethods();
        all.addAll(seenFields());
        due.is("the document's face", all.toString(), new Document().face().toString());
        Constructor<?>[] made = LoafFall.class.getDeclaredConstructors();
        due.is("constructors", made.length, 1);
        due.is("the constructor", made[0].toString(), "public LoafFall()");
        checkInside(due);
        due.end();
    }

    private static TreeSet<String> seenMethods() {
        TreeSet<String> seen = new TreeSet<>();
        for (Method m : LoafFall.class.getDeclaredMethods()) {
            if (Modifier.isPrivate(m.getModifiers())) {
                continue;
            }
            StringBuilder s = new StringBuilder();
            for (Class<?> p : m.getParameterTypes()) {
                s.append(s.length() == 0 ? "" : ",").append(p);
            }
            seen.add(m.getReturnType() + " " + m.getName() + "(" + s + ")");
        }
        return seen;
    }

    private static TreeSet<String> seenFields() throws Exception {
        TreeSet<String> seen = new TreeSet<>();
        for (Field f : LoafFall.class.getDeclaredFields()) {
            if (!Modifier.isPrivate(f.getModifiers())) {
                boolean fixed = Modifier.toString(f.getModifiers()).equals("public static final");
                seen.add(f.getName() + " " + (fixed ? f.get(null) : "not public static final"));
            }
        }
        return seen;
    }

    private static void checkInside(Due due) {
        TreeSet<String> publicNames = new TreeSet<>();
        for (String m : METHODS) {
            publicNames.add(m.substring(m.indexOf(' ') + 1, m.indexOf('(')));
        }
        int classes = 1;
        for (Method m : LoafFall.class.getDeclaredMethods()) {
            boolean hidden = Modifier.isPrivate(m.getModifiers());
            due.is("a private name is no public one: " + m, hidden && publicNames.contains(m.getName()), false);
        }
        for (Class<?> inside : LoafFall.class.getDeclaredClasses()) {
            classes++;
            due.is("static and private: " + inside, Modifier.isStatic(inside.getModifiers())
                    && Modifier.isPrivate(inside.getModifiers()), true);
            for (Method m : inside.getDeclaredMethods()) {
                due.is("no public name inside: " + m, publicNames.contains(m.getName()), false);
            }
            due.is("few fields: " + inside, inside.getDeclaredFields().length <= 20, true);
        }
        due.is("at most twelve classes", classes <= 12, true);
    }
}

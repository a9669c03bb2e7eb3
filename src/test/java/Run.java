import java.lang.reflect.InvocationTargetException;
import java.lang.reflect.Method;
import java.util.ArrayList;
import java.util.Arrays;
import java.util.HashMap;
import java.util.List;
import java.util.Map;

/**
 * Calls on one LoafFall, told as texts like "lay(0, 1, LOW)". Model, the slow second writing of the document, is
 * asked each of them too, so that no value that is due hangs on the program alone. What is taken is written down:
 * at the end a second LoafFall that was asked these calls alone must be as the first one, whatever was refused
 * between.
 */
final class Run {
    static final int BAD = -1, FULL = -2, FINDING = -3, STATE = -4, SPENT = -6, NONE = -9;
    static final int NOTHING = 1, BEYOND = 2, UNLIKE = 3, NOUGHT = 4, SIZE = 5;

    private static final int CALLS_MOST = 512;
    private static final Map<String, Method> FACE = new HashMap<>();
    private static final Map<String, Method> SLOW = new HashMap<>();
    private static final String[] SHOWN = {"digest()", "asked()", "upper()", "lower()", "finding()", "findings(1)",
        "findings(2)", "findings(3)", "findings(4)", "findings(5)"};
    /** What digest() does not show: the LOAF's own FLOUR and DOING, how far it is in them, what is kept. */
    private static final String[] HIDDEN = {"digest()", "asked()", "upper()", "lower()", "rests(3)", "mark(0, 1)",
        "mark(0, 2)", "mark(0, 3)", "mark(0, 4)", "change()", "asked()", "go(1)", "go(6)", "digest()", "on(0)",
        "change()", "asked()", "go(4)", "digest()", "on(1)", "change()", "go(4)", "digest()", "on(2)", "change()",
        "go(4)", "digest()"};

    static {
        for (Method m : LoafFall.class.getMethods()) {
            if (m.getDeclaringClass() == LoafFall.class) {
                FACE.put(m.getName(), m);
            }
        }
        for (Method m : Model.class.getDeclaredMethods()) {
            if (FACE.containsKey(m.getName())) {
                SLOW.put(m.getName(), m);
            }
        }
    }

    private final Due due;
    private final String name;
    private final List<String> taken = new ArrayList<>();
    private LoafFall x = new LoafFall();
    private Model slow = new Model();
    private int calls;
    private boolean refused;
    private long[] shown;

    Run(Due due, String name) {
        this.due = due;
        this.name = name;
    }

    // ---- calls

    private static Object number(String told) {
        return switch (told) {
            case "LOW" -> Integer.MIN_VALUE;
            case "HIGH" -> Integer.MAX_VALUE;
            case "true", "false" -> Boolean.valueOf(told);
            default -> Integer.valueOf(told);
        };
    }

    private static long answer(Object of, Map<String, Method> methods, String call) {
        int open = call.indexOf('(');
        Method method = methods.get(call.substring(0, open));
        String inside = call.substring(open + 1, call.length() - 1);
        Object[] with = inside.isEmpty() ? new Object[0]
                : Arrays.stream(inside.split(", ")).map(Run::number).toArray();
        try {
            return ((Number) method.invoke(of, with)).longValue();
        } catch (InvocationTargetException thrown) {
            throw new IllegalStateException(call + " threw", thrown.getCause());
        } catch (IllegalAccessException closed) {
            throw new IllegalStateException(call, closed);
        }
    }

    private long look(String call) {
        calls++;
        long got = answer(x, FACE, call);
        same(call + " by the slow model", got, answer(slow, SLOW, call));
        return got;
    }

    private void same(String what, long got, long wanted) {
        due.is(name + ": " + what, got, wanted);
    }

    /** A call that is taken: what it answers. */
    long take(String call) {
        taken.add(call);
        shown = null;
        return look(call);
    }

    void is(String call, long answer) {
        same(call, take(call), answer);
    }

    /** A call that is taken and tells by asked(). */
    void tells(String call, long answer, long asked) {
        is(call, answer);
        same(call + ", asked()", look("asked()"), asked);
    }

    /** A call that tells by asked() alone. */
    void tells(String call, long asked) {
        tells(call, 1, asked);
    }

    /** A fraction, told by odds(). */
    void parts(String call, long answer, long upper, long lower) {
        is(call, answer);
        same(call + ", upper()", look("upper()"), upper);
        same(call + ", lower()", look("lower()"), lower);
    }

    private long[] show() {
        long[] all = new long[SHOWN.length];
        for (int i = 0; i < all.length; i++) {
            all[i] = look(SHOWN[i]);
        }
        return all;
    }

    private void refusedAs(String call, int answer, int finding) {
        long[] wanted = shown == null ? show() : shown;
        if (finding != 0) {
            wanted[4] = finding;
            wanted[4 + finding]++;
        }
        same(call, look(call), answer);
        shown = show();
        for (int i = 0; i < wanted.length; i++) {
            same("behind " + call + " that is refused " + SHOWN[i], shown[i], wanted[i]);
        }
        refused = true;
    }

    /** A call that is refused (or NONE) without a FINDING: nothing at all has changed behind it. */
    void refuses(String call, int answer) {
        refusedAs(call, answer, 0);
    }

    void bad(String... all) {
        for (String call : all) {
            refuses(call, BAD);
        }
    }

    /** A call that answers with a FINDING: nothing but that has changed behind it. */
    void finds(String call, int finding) {
        refusedAs(call, FINDING, finding);
    }

    // ---- what many tests need

    void text(int t, String signs) {
        is("text(" + t + ", " + signs.length() + ")", signs.length());
        for (int i = 0; i < signs.length(); i++) {
            if (signs.charAt(i) != ' ') {
                take("put(" + t + ", " + i + ", " + (int) signs.charAt(i) + ")");
            }
        }
    }

    /** A FLOUR by TEXT 3. */
    void flour(int k, String signs) {
        text(3, signs);
        same("flour of '" + signs + "'", Math.min(0, take("flour(" + k + ", 3)")), 0);
    }

    /** A DOING by TEXT 3. */
    void doing(int k, String signs) {
        text(3, signs);
        same("doing of '" + signs + "'", Math.min(0, take("doing(" + k + ", 3)")), 0);
    }

    /** FLOUR 0, DOING 0, and a LOAF begun by them. */
    void loaf(String flour, String doing) {
        flour(0, flour);
        doing(0, doing);
        same("loaf of '" + flour + "', '" + doing + "'", Math.min(0, take("loaf(0, 0)")), 0);
    }

    /** Such a LOAF, gone on by so many TURNS. */
    void gone(String flour, String doing, int turns) {
        loaf(flour, doing);
        is("go(" + turns + ")", turns);
    }

    /** A ROW of these figures. */
    void row(int r, String figures) {
        is("row(" + r + ", " + figures.length() + ")", figures.length());
        for (int i = 0; i < figures.length(); i++) {
            if (figures.charAt(i) != '0') {
                take("lay(" + r + ", " + i + ", " + figures.charAt(i) + ")");
            }
        }
    }

    void rowIs(int r, int... places) {
        for (int i = 0; i < places.length; i++) {
            tells("at(" + r + ", " + i + ")", places[i]);
        }
    }

    /** GAS, STRETCH, HEAT, SET, TORN of a CELL. */
    void cellIs(int c, int... facts) {
        for (int what = 0; what < facts.length; what++) {
            tells("cell(" + c + ", " + what + ")", facts[what]);
        }
    }

    void gas(int c, int due) {
        tells("cell(" + c + ", 0)", due);
    }

    void stretch(int c, int due) {
        tells("cell(" + c + ", 1)", due);
    }

    void heat(int c, int due) {
        tells("cell(" + c + ", 2)", due);
    }

    void set(int c, int due) {
        tells("cell(" + c + ", 3)", due);
    }

    void torn(int c, int due) {
        tells("cell(" + c + ", 4)", due);
    }

    void falls(int due) {
        is("count(3)", due);
    }

    /** KIND, CELL, GAS, TURN of a FALL. */
    void fallIs(int k, int... facts) {
        for (int what = 0; what < facts.length; what++) {
            tells("fall(" + k + ", " + what + ")", facts[what]);
        }
    }

    // ---- ends

    /** The rest of the test is asked of a new object. */
    void anew() {
        end();
        taken.clear();
        x = new LoafFall();
        slow = new Model();
        calls = 0;
        refused = false;
        shown = null;
    }

    void end() {
        if (refused) {
            LoafFall other = new LoafFall();
            for (String call : taken) {
                answer(other, FACE, call);
            }
            for (String call : HIDDEN) {
                same("at the end, " + call, look(call), answer(other, FACE, call));
            }
        }
        due.is(name + ": asks more calls than an object is used for", calls > CALLS_MOST, false);
    }
}

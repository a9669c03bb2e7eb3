import java.util.function.IntSupplier;

/** Each promise of the document by its number: ordinary inputs, edges, and what is refused in which order. */
public final class PromiseTest {
    private static final int BAD = -1, FULL = -2, STATE = -4, SPENT = -6, NONE = -9;
    private static final int NOTHING = 1, BEYOND = 2, UNLIKE = 3, NOUGHT = 4, SIZE = 5;
    private static final int LOW = Integer.MIN_VALUE, HIGH = Integer.MAX_VALUE;

    private static final Due DUE = new Due("PromiseTest");
    private static int promise;
    private static LoafFall x;

    public static void main(String[] args) {
        newObject();
        rows();
        texts();
        faults();
        floursAndDoings();
        loaves();
        heatAndGas();
        kneadKnockDoor();
        kindsOfFalls();
        marks();
        keptLoaves();
        heightsHolesCuts();
        fingers();
        whyAndOdds();
        sproutAndRack();
        changeAndChanges();
        wideAndFlours();
        beginOvenEven();
        slipsAndLaws();
        whatIsTold();
        digests();
        DUE.end();
    }

    // ---- how it is asked

    private static void fresh(int number) {
        promise = number;
        x = new LoafFall();
    }

    private static void is(String call, long got, long due) {
        DUE.is("promise " + promise + ": " + call, got, due);
    }

    /** A call that tells by asked(). */
    private static void tells(String call, int got, int due, int asked) {
        is(call, got, due);
        is(call + ", asked()", x.asked(), asked);
    }

    private static String state() {
        return x.digest() + " " + x.asked() + " " + x.upper() + "/" + x.lower();
    }

    private static String findings() {
        StringBuilder s = new StringBuilder().append(x.finding());
        for (int f = NOTHING; f <= SIZE; f++) {
            s.append(' ').append(x.findings(f));
        }
        return s.toString();
    }

    /** A call that is refused (or NONE) without a FINDING: nothing changes at all. */
    private static void refuses(String call, int due, IntSupplier asks) {
        String before = state() + " " + findings();
        is(call, asks.getAsInt(), due);
        DUE.is("promise " + promise + ": state behind " + call, state() + " " + findings(), before);
    }

    /** A call that answers with a FINDING: nothing but that changes. */
    private static void finds(String call, int finding, IntSupplier asks) {
        String before = state();
        int times = x.findings(finding);
        is(call, asks.getAsInt(), LoafFall.FINDING);
        is(call + ", finding()", x.finding(), finding);
        is(call + ", findings()", x.findings(finding), times + 1);
        DUE.is("promise " + promise + ": state behind " + call, state(), before);
    }

    private static void write(int t, String s) {
        is("text", x.text(t, s.length()), s.length());
        for (int i = 0; i < s.length(); i++) {
            x.put(t, i, s.charAt(i));
        }
    }

    private static int flour(int k, String s) {
        write(0, s);
        return x.flour(k, 0);
    }

    private static int doing(int k, String s) {
        write(0, s);
        return x.doing(k, 0);
    }

    private static void loaf(String flour, String doing) {
        flour(0, flour);
        doing(0, doing);
        x.loaf(0, 0);
    }

    private static int cell(int c, int what) {
        is("cell", x.cell(c, what), 1);
        return x.asked();
    }

    private static int fall(int k, int what) {
        is("fall", x.fall(k, what), 1);
        return x.asked();
    }

    private static void fillRow(int r, int v) {
        x.row(r, 24);
        for (int c = 0; c < 24; c++) {
            x.lay(r, c, v);
        }
    }

    // ---- promise 1

    private static void newObject() {
        fresh(1);
        for (int what = 0; what <= 8; what++) {
            is("count(" + what + ")", x.count(what), 0);
        }
        is("asked()", x.asked(), 0);
        is("upper()", x.upper(), 0);
        is("lower()", x.lower(), 1);
        is("finding()", x.finding(), 0);
        finds("at(0, 0)", NOTHING, () -> x.at(0, 0));
        finds("fault(0, true)", NOTHING, () -> x.fault(0, true));
        finds("about(0, 0)", NOTHING, () -> x.about(0, 0));
        finds("step(0, 0)", NOTHING, () -> x.step(0, 0));
        finds("on(0)", NOTHING, () -> x.on(0));
        refuses("height()", STATE, () -> x.height());
        refuses("told(0, 0)", BAD, () -> x.told(0, 0));
    }

    // ---- promises 2 to 7

    private static void rows() {
        fresh(2);
        is("row(0, 0)", x.row(0, 0), 0);
        is("row(5, 40)", x.row(5, 40), 40);
        is("count(7)", x.count(7), 2);
        x.lay(5, 39, 7);
        is("row(5, 40) anew", x.row(5, 40), 40);
        x.at(5, 39);
        is("asked()", x.asked(), 0);
        is("row(5, 3) shorter", x.row(5, 3), 3);
        finds("at(5, 3)", BEYOND, () -> x.at(5, 3));
        refuses("row(6, 1)", BAD, () -> x.row(6, 1));
        refuses("row(-1, -1)", BAD, () -> x.row(-1, -1));
        refuses("row(0, 41)", BAD, () -> x.row(0, 41));
        refuses("row(0, HIGH)", BAD, () -> x.row(0, HIGH));
        finds("row(0, -1)", SIZE, () -> x.row(0, -1));
        finds("row(0, LOW)", SIZE, () -> x.row(0, LOW));

        fresh(3);
        x.row(1, 2);
        tells("lay(1, 1, LOW)", x.lay(1, 1, LOW), 1, 0);
        tells("lay(1, 1, 5)", x.lay(1, 1, 5), 1, LOW);
        refuses("lay(6, 9, 0)", BAD, () -> x.lay(6, 9, 0));
        refuses("lay(-1, 0, 0)", BAD, () -> x.lay(-1, 0, 0));
        finds("lay(0, 0, 0)", NOTHING, () -> x.lay(0, 0, 0));
        finds("lay(1, 2, 0)", BEYOND, () -> x.lay(1, 2, 0));
        finds("lay(1, -1, 0)", BEYOND, () -> x.lay(1, -1, 0));

        fresh(4);
        x.row(2, 3);
        x.lay(2, 2, -8);
        x.lay(2, 0, 4);
        tells("at(2, 2)", x.at(2, 2), 1, -8);
        tells("at(2, 1)", x.at(2, 1), 1, 0);
        refuses("at(6, 0)", BAD, () -> x.at(6, 0));
        finds("at(3, -1)", NOTHING, () -> x.at(3, -1));
        finds("at(2, 3)", BEYOND, () -> x.at(2, 3));
        finds("at(2, LOW)", BEYOND, () -> x.at(2, LOW));

        fresh(5);
        x.row(4, 2);
        is("tear(4)", x.tear(4), 1);
        is("count(7)", x.count(7), 0);
        finds("tear(4)", NOTHING, () -> x.tear(4));
        refuses("tear(6)", BAD, () -> x.tear(6));
        refuses("tear(-1)", BAD, () -> x.tear(-1));
        copies();
        means();
    }

    private static void copies() {
        fresh(6);
        x.row(0, 5);
        for (int i = 0; i < 5; i++) {
            x.lay(0, i, i + 1);
        }
        x.row(1, 3);
        is("copy(0, 2, 1, 0, 3)", x.copy(0, 2, 1, 0, 3), 1);
        tells("at(1, 2)", x.at(1, 2), 1, 5);
        is("copy onto itself upward", x.copy(0, 0, 0, 1, 4), 1);
        tells("at(0, 4)", x.at(0, 4), 1, 4);
        tells("at(0, 1)", x.at(0, 1), 1, 1);
        is("copy onto itself downward", x.copy(0, 1, 0, 0, 4), 1);
        tells("at(0, 3)", x.at(0, 3), 1, 4);
        tells("at(0, 0)", x.at(0, 0), 1, 1);
        is("copy(0, 5, 1, 3, 0)", x.copy(0, 5, 1, 3, 0), 1);
        refuses("copy(6, 0, 0, 0, -1)", BAD, () -> x.copy(6, 0, 0, 0, -1));
        refuses("copy(0, 0, -1, 0, 0)", BAD, () -> x.copy(0, 0, -1, 0, 0));
        finds("copy(2, 0, 0, 0, -1)", SIZE, () -> x.copy(2, 0, 0, 0, -1));
        finds("copy(2, -1, 0, 0, 0)", NOTHING, () -> x.copy(2, -1, 0, 0, 0));
        finds("copy(0, 0, 2, 99, 0)", NOTHING, () -> x.copy(0, 0, 2, 99, 0));
        finds("copy(0, 6, 1, 0, 0)", BEYOND, () -> x.copy(0, 6, 1, 0, 0));
        finds("copy(0, 0, 1, 4, 0)", BEYOND, () -> x.copy(0, 0, 1, 4, 0));
        finds("copy(0, -1, 1, 0, 0)", BEYOND, () -> x.copy(0, -1, 1, 0, 0));
        finds("copy(0, 0, 1, -1, 0)", BEYOND, () -> x.copy(0, 0, 1, -1, 0));
        finds("copy(0, 3, 1, 0, 3)", BEYOND, () -> x.copy(0, 3, 1, 0, 3));
        finds("copy(0, 0, 1, 1, 3)", BEYOND, () -> x.copy(0, 0, 1, 1, 3));
        finds("copy(0, HIGH, 1, HIGH, HIGH)", BEYOND, () -> x.copy(0, HIGH, 1, HIGH, HIGH));
        finds("copy(0, 1, 1, 1, HIGH)", BEYOND, () -> x.copy(0, 1, 1, 1, HIGH));
    }

    private static void means() {
        fresh(7);
        x.row(0, 2);
        x.lay(0, 0, HIGH);
        x.lay(0, 1, HIGH);
        tells("mean(0)", x.mean(0), 1, HIGH);
        x.lay(0, 0, -4);
        x.lay(0, 1, -1);
        tells("mean(0), cut", x.mean(0), 1, -2);
        x.lay(0, 0, 4);
        x.lay(0, 1, 1);
        tells("mean(0), cut", x.mean(0), 1, 2);
        x.row(1, 0);
        finds("mean(1)", NOUGHT, () -> x.mean(1));
        finds("mean(2)", NOTHING, () -> x.mean(2));
        refuses("mean(6)", BAD, () -> x.mean(6));
    }

    // ---- promises 8 to 10

    private static void texts() {
        fresh(8);
        is("text(3, 80)", x.text(3, 80), 80);
        is("put(3, 79, 1)", x.put(3, 79, 1), 1032);
        is("text(3, 80) anew", x.text(3, 80), 80);
        is("put(3, 79, 1)", x.put(3, 79, 1), 1032);
        is("text(0, 0)", x.text(0, 0), 0);
        is("count(8)", x.count(8), 2);
        refuses("text(4, -1)", BAD, () -> x.text(4, -1));
        refuses("text(-1, 0)", BAD, () -> x.text(-1, 0));
        refuses("text(0, 81)", BAD, () -> x.text(0, 81));
        finds("text(0, -1)", SIZE, () -> x.text(0, -1));

        fresh(9);
        x.text(1, 2);
        is("put(1, 0, 200)", x.put(1, 0, 200), 1032);
        is("put(1, 0, -129)", x.put(1, 0, -129), 1000 - 56);
        is("put(1, 0, 128)", x.put(1, 0, 128), 1127);
        is("put(1, 0, 256)", x.put(1, 0, 256), 1000 - 128);
        is("put(1, 0, HIGH)", x.put(1, 0, HIGH), 1000);
        is("put(1, 0, 7)", x.put(1, 0, 7), 999);
        refuses("put(4, 9, 0)", BAD, () -> x.put(4, 9, 0));
        finds("put(0, 9, 0)", NOTHING, () -> x.put(0, 9, 0));
        finds("put(1, 2, 0)", BEYOND, () -> x.put(1, 2, 0));
        finds("put(1, -1, 0)", BEYOND, () -> x.put(1, -1, 0));
    }

    private static void faultIs(String s, boolean doing, int due) {
        x = new LoafFall();
        write(2, s);
        is("fault of '" + s + "'", x.fault(2, doing), due);
        if (due != NONE) {
            promise = doing ? 12 : 11;
            refuses("made of '" + s + "'", STATE, () -> doing ? x.doing(1, 2) : x.flour(1, 2));
            promise = 10;
        }
    }

    private static void faults() {
        fresh(10);
        refuses("fault(4, true)", BAD, () -> x.fault(4, true));
        refuses("fault(-1, false)", BAD, () -> x.fault(-1, false));
        finds("fault(1, false)", NOTHING, () -> x.fault(1, false));
        String[] fine = {"", "   ", "y1", "y09 ", " s10s99", "e0w0t0", "  y9  s99 e9 w9   t9 ", "y5y6y7"};
        for (String s : fine) {
            faultIs(s, false, NONE);
        }
        faultIs("y", false, 1);
        faultIs("y ", false, 1);
        faultIs("y 3", false, 1);
        faultIs("y0", false, 2);
        faultIs("y00", false, 3);
        faultIs("y10", false, 3);
        faultIs("y123", false, 3);
        faultIs("s9", false, 2);
        faultIs("s9 ", false, 2);
        faultIs("s09", false, 3);
        faultIs("s100", false, 3);
        faultIs("e10", false, 3);
        faultIs("w10", false, 3);
        faultIs("t10", false, 3);
        faultIs("w1 0", false, 3);
        faultIs("Y1", false, 0);
        faultIs("  y1 :", false, 5);
        faultIs("y1 t", false, 4);
        faultIs("t-1", false, 1);
        faultIs("y1" + (char) 249, false, 2);
        String[] done = {"", "  ", "k", "kxd", "r0:1", "o9:30", " r1:01 o2:9k x  d ", "kkkkkkkkkk  ",
            "r1:30r1:30r1:30", "r1:30r1:30r1:29o1:1"};
        for (String s : done) {
            faultIs(s, true, NONE);
        }
        faultIs("r", true, 1);
        faultIs("r ", true, 1);
        faultIs("r:1", true, 1);
        faultIs("r1", true, 2);
        faultIs("r1 :1", true, 2);
        faultIs("r12:1", true, 2);
        faultIs("r1:", true, 3);
        faultIs("r1: 1", true, 3);
        faultIs("r1:k", true, 3);
        faultIs("r1:0", true, 4);
        faultIs("r1:00", true, 5);
        faultIs("o1:31", true, 5);
        faultIs("o1:300", true, 5);
        faultIs("r1:30r1:30r1:30 o1:1", true, 20);
        faultIs("r1:30r1:30r1:29 r1:2k", true, 20);
        faultIs("kkkkkkkkkkd", true, 10);
        faultIs("kkkkkkkkkk  r", true, 12);
        faultIs("kkkkkkkkkkz", true, 10);
        faultIs("k,", true, 1);
        faultIs("y3", true, 0);
        x.text(3, 80);
        is("fault of 80 blanks", x.fault(3, false), NONE);
        x.put(3, 79, 'k');
        is("fault at the end of 80", x.fault(3, false), 79);
        is("no fault at the end of 80", x.fault(3, true), NONE);
        x.put(3, 79, 'o');
        is("an end too early", x.fault(3, true), 80);
    }

    // ---- promises 11 to 14

    private static void floursAndDoings() {
        fresh(11);
        is("flour of nothing", flour(0, ""), 0);
        is("flour of items told again", flour(1, " y4 s33y5 e0w9 t0 e7"), 7);
        is("count(0)", x.count(0), 2);
        is("flour anew", flour(1, "w8"), 1);
        refuses("flour(4, 3)", BAD, () -> x.flour(4, 3));
        refuses("flour(0, 4)", BAD, () -> x.flour(0, 4));
        refuses("flour(-1, 0)", BAD, () -> x.flour(-1, 0));
        finds("flour(0, 3)", NOTHING, () -> x.flour(0, 3));
        x.text(1, 1);
        x.put(1, 0, 'q');
        refuses("flour(0, 1)", STATE, () -> x.flour(0, 1));

        promise = 13;
        int[] usual = {3, 40, 1, 4, 2};
        int[] told = {3, 40, 1, 8, 2};
        for (int what = 0; what < 5; what++) {
            tells("about(0, " + what + ")", x.about(0, what), 1, usual[what]);
            tells("about(1, " + what + ")", x.about(1, what), 1, told[what]);
        }
        flour(2, "y4 s33y5 e0w9 t0 e7");
        int[] again = {5, 33, 7, 9, 0};
        for (int what = 0; what < 5; what++) {
            tells("about(2, " + what + ")", x.about(2, what), 1, again[what]);
        }
        refuses("about(0, 5)", BAD, () -> x.about(0, 5));
        refuses("about(0, -1)", BAD, () -> x.about(0, -1));
        refuses("about(4, 0)", BAD, () -> x.about(4, 0));
        refuses("about(3, 5)", BAD, () -> x.about(3, 5));
        finds("about(3, 4)", NOTHING, () -> x.about(3, 4));

        fresh(12);
        is("doing of nothing", doing(0, ""), 0);
        is("doing of five", doing(3, "k r2:9x o8:30 d"), 5);
        is("count(1)", x.count(1), 2);
        refuses("doing(4, 0)", BAD, () -> x.doing(4, 0));
        refuses("doing(0, -1)", BAD, () -> x.doing(0, -1));
        finds("doing(0, 3)", NOTHING, () -> x.doing(0, 3));
        x.text(1, 1);
        x.put(1, 0, 'y');
        refuses("doing(3, 1)", STATE, () -> x.doing(3, 1));

        promise = 14;
        tells("step(3, 0)", x.step(3, 0), 3, 0);
        tells("step(3, 1)", x.step(3, 1), 1, 209);
        tells("step(3, 2)", x.step(3, 2), 4, 0);
        tells("step(3, 3)", x.step(3, 3), 2, 830);
        tells("step(3, 4)", x.step(3, 4), 5, 0);
        finds("step(3, 5)", BEYOND, () -> x.step(3, 5));
        finds("step(3, -1)", BEYOND, () -> x.step(3, -1));
        finds("step(0, 0)", BEYOND, () -> x.step(0, 0));
        finds("step(1, 0)", NOTHING, () -> x.step(1, 0));
        refuses("step(4, 0)", BAD, () -> x.step(4, 0));
        is("doing anew", doing(3, "d"), 1);
        tells("step(3, 0)", x.step(3, 0), 5, 0);
    }

    // ---- promises 15 to 17

    private static void loaves() {
        fresh(15);
        flour(1, "s50");
        doing(2, "r1:30 k o2:7");
        is("loaf(1, 2)", x.loaf(1, 2), 37);
        is("cell", cell(7, 1), 50);
        x.go(5);
        flour(1, "s60");
        doing(2, "");
        is("it goes on by what was", cell(0, 1), 50);
        is("loaf(1, 2) anew", x.loaf(1, 2), 0);
        is("turn", x.count(2), 0);
        is("cell", cell(0, 1), 60);
        refuses("loaf(4, 2)", BAD, () -> x.loaf(4, 2));
        refuses("loaf(1, -1)", BAD, () -> x.loaf(1, -1));
        finds("loaf(0, 2)", NOTHING, () -> x.loaf(0, 2));
        finds("loaf(1, 0)", NOTHING, () -> x.loaf(1, 0));

        fresh(16);
        refuses("go(100) without", BAD, () -> x.go(100));
        refuses("go(0) without", STATE, () -> x.go(0));
        loaf("", "r3:4");
        is("go(0)", x.go(0), 0);
        is("go(3)", x.go(3), 3);
        is("go(95)", x.go(95), 98);
        refuses("go(2)", SPENT, () -> x.go(2));
        is("go(1)", x.go(1), 99);
        is("go(0)", x.go(0), 99);
        refuses("go(1)", SPENT, () -> x.go(1));
        refuses("go(-1)", BAD, () -> x.go(-1));
        refuses("go(100)", BAD, () -> x.go(100));
        refuses("go(HIGH)", BAD, () -> x.go(HIGH));
        x.loaf(0, 0);
        is("go(99)", x.go(99), 99);

        fresh(17);
        refuses("cell(24, 0) without", BAD, () -> x.cell(24, 0));
        refuses("cell(0, 0) without", STATE, () -> x.cell(0, 0));
        loaf("s77", "");
        int[] first = {0, 77, 20, 0, 0};
        for (int what = 0; what < 5; what++) {
            tells("cell(23, " + what + ")", x.cell(23, what), 1, first[what]);
        }
        refuses("cell(-1, 0)", BAD, () -> x.cell(-1, 0));
        refuses("cell(0, 5)", BAD, () -> x.cell(0, 5));
        refuses("cell(0, -1)", BAD, () -> x.cell(0, -1));
    }

    /** What TURNS do to CELLS that do not tear (Terms 2, by promises 16 and 17). */
    private static void heatAndGas() {
        fresh(16);
        loaf("", "r4:2 o9:20");
        x.go(1);
        is("heat of an outer one", cell(0, 2), 30);
        is("heat of the bottom's middle", cell(1, 2), 30);
        is("heat of the top's middle", cell(23, 2), 30);
        is("heat of an inner one", cell(3, 2), 20);
        is("gas by heat 30", cell(0, 0), 3);
        is("gas by heat 20", cell(3, 0), 2);
        is("stretch", cell(3, 1), 39);
        x.go(1);
        is("heat of an outer one", cell(22, 2), 35);
        is("heat above the bottom", cell(3, 2), 25);
        is("heat below the top", cell(21, 2), 25);
        is("heat of an inner one", cell(5, 2), 22);
        x.go(1);
        is("oven, an outer one", cell(0, 2), 62);
        is("no gas above 55", cell(0, 0), 6);
        is("set by 62", cell(0, 3), 1);
        is("set of a cool one", cell(5, 3), 0);
        x.go(1);
        is("oven, an outer one", cell(0, 2), 76);
        is("set by 76", cell(0, 3), 5);
        x.go(18);
        is("set at most", cell(0, 3), 99);
        int kept = cell(0, 1);
        x.go(1);
        is("stretch of what has set", cell(0, 1), kept);
        is("table of warmth 2", cell(0, 2) < 60 ? 1 : 0, 1);
        loaf("t0 y9 s50", "r2:2");
        x.go(1);
        is("stretch without salt", cell(4, 1), 48);
        is("gas without salt", cell(4, 0), 9);
        loaf("t9 y9", "r2:2");
        x.go(1);
        is("gas cut to none", cell(4, 0), 0);
        loaf("s10 y1 t9", "r0:10 r5:30");
        x.go(1);
        is("cooling", cell(0, 2), 10);
        is("no stretch is lost below 20", cell(0, 1), 10);
        x.go(1);
        is("cooling, cut toward 0", cell(0, 2), 5);
        x.go(1);
        is("cooling, cut toward 0", cell(0, 2), 3);
        is("an inner one, cut toward 0", cell(11, 2), 15);
        loaf("e9 y1 t9", "o9:30");
        x.go(30);
        is("set with all sprouted", cell(0, 3), 0);
        loaf("s10 y1 t1", "r2:30");
        x.go(30);
        is("stretch 0 at least", cell(0, 1), 0);
    }

    private static void kneadKnockDoor() {
        fresh(16);
        loaf("y5 t0 s40", "r2:2 k r2:2 x");
        x.go(2);
        is("gas", cell(0, 0), 10);
        is("stretch, not kneaded yet", cell(0, 1), 36);
        x.go(0);
        is("nothing is done by go(0)", cell(0, 1), 36);
        x.go(1);
        is("kneaded: gas half", cell(0, 0), 5 + 5);
        is("kneaded: stretch", cell(0, 1), 44);
        x.go(1);
        is("gas", cell(0, 0), 15);
        x.go(1);
        is("knocked: a quarter less, cut", cell(0, 0), 12 + 5);
        is("no fall", x.count(3), 0);
        loaf("s95 y1 t9", "kkk");
        is("behind loaf() not done", cell(0, 1), 95);
        x.go(1);
        is("99 at most, one behind the other", cell(0, 1), 98);
        loaf("y1 t9", "o9:1 d r5:1 dddd");
        x.go(1);
        is("heat", cell(0, 2), 55);
        x.go(1);
        is("door, then rest", cell(0, 2), 35 + 7);
        is("door at the bottom's middle", cell(1, 2), 42);
        is("none at an inner one", cell(11, 2), 23);
        x.go(1);
        is("doors, 0 at least, then the table", cell(0, 2), 10);
        loaf("y9 s12 w9 t4", "r2:2 k");
        x.go(2);
        is("gas", cell(0, 0), 10);
        x.go(1);
        is("knead as the first thing on the table", cell(0, 0), 10);
        is("knead behind the last step", cell(0, 1), 19);
    }

    // ---- promises 18 and 19

    private static void fallIs(String flour, String doing, int turns, int kind, int gas) {
        loaf(flour, doing);
        x.go(turns);
        is("nothing fell yet", x.count(3), 0);
        x.go(1);
        is("kind", fall(0, 0), kind);
        is("cell", fall(0, 1), 0);
        is("gas", fall(0, 2), gas);
        is("turn", fall(0, 3), turns);
    }

    private static void kindsOfFalls() {
        fresh(18);
        refuses("fall(0, 0) without", BAD, () -> x.fall(0, 0));
        fallIs("y9 s20 w0", "r2:9", 4, 0, 35);
        fallIs("y9 s20 w0", "o2:9", 4, 2, 35);
        fallIs("y9 s12 w0", "r2:9", 2, 1, 21);
        fallIs("y9 s12 w0", "o2:9", 2, 1, 21);
        fallIs("y9 s12 w0 t0", "r2:9", 1, 6, 18);
        fallIs("y9 s20", "r2:3 x", 3, 3, 21);
        is("all fell", x.count(3), 24);
        is("second's cell", fall(1, 1), 1);
        is("third's cell", fall(2, 1), 2);
        is("third's gas: half of the first's more", fall(2, 2), 31);
        is("fifth's gas", fall(4, 2), 36);
        is("no gas is left", cell(23, 0), 0);
        refuses("fall(24, 0)", BAD, () -> x.fall(24, 0));
        refuses("fall(-1, 0)", BAD, () -> x.fall(-1, 0));
        refuses("fall(0, 4)", BAD, () -> x.fall(0, 4));
        refuses("fall(0, -1)", BAD, () -> x.fall(0, -1));
        fallIs("y9 s60", "r2:6 o2:1", 7, 4, 56);
        is("undone ones", x.count(4), 24);
        fallIs("y9 s60 e4", "r2:6 o2:1", 7, 4, 56);
        fallIs("y9 s60 e5", "r2:6 o2:1", 7, 5, 56);
        is("undone ones, sprouted too", x.count(4), 24);
        fallIs("y9 s60 e5", "r2:6 o2:1 r2:9", 7, 5, 56);
        fallIs("y5 t5 s99", "r2:18 o2:1", 20, 4, 42);
        fallIs("y5 t5 s16 w4", "r2:30", 9, 1, 20);
        loaf("y9 s60", "r2:8");
        x.go(8);
        is("no oven came ahead", x.count(3), 0);
    }

    private static void markIs(int k, int kind, int due) {
        for (int other = 1; other <= 6; other++) {
            int asks = other;
            boolean wider = kind == 6 && other == 1 || kind == 5 && other == 4;
            if (other == kind) {
                is("mark(" + k + ", " + kind + ")", x.mark(k, kind), due);
            } else if (!wider) {
                finds("mark(" + k + ", " + other + ")", UNLIKE, () -> x.mark(k, asks));
            }
        }
    }

    private static void marks() {
        fresh(19);
        refuses("mark(0, 1) without", BAD, () -> x.mark(0, 1));
        fallIs("y9 s20 w0", "r2:9", 4, 0, 35);
        markIs(0, 0, 0);
        refuses("mark(0, 0)", BAD, () -> x.mark(0, 0));
        refuses("mark(0, 7)", BAD, () -> x.mark(0, 7));
        refuses("mark(24, 1)", BAD, () -> x.mark(24, 1));
        refuses("mark(-1, 1)", BAD, () -> x.mark(-1, 1));
        fallIs("y9 s12 w0", "r2:9", 2, 1, 21);
        markIs(0, 1, 9);
        fallIs("y9 s20 w0", "o2:9", 4, 2, 35);
        markIs(0, 2, 20);
        fallIs("y9 s20", "r2:3 x", 3, 3, 21);
        markIs(0, 3, 4);
        markIs(2, 3, 14);
        fallIs("y9 s60", "r2:6 o2:1", 7, 4, 56);
        markIs(0, 4, 50);
        fallIs("y9 s60 e7", "r2:6 o2:1", 7, 5, 56);
        markIs(0, 5, 7);
        is("a sprouted one is undone", x.mark(0, 4), 50);
        fallIs("y9 s12 w0 t0", "r2:9", 1, 6, 18);
        markIs(0, 6, 0);
        markIs(23, 6, fall(23, 1) / 2);
        is("an unsalted one is overripe", x.mark(0, 1), 8);
        x.go(5);
        is("as it tore", x.mark(0, 1), 8);
    }

    // ---- promises 20 and 21

    private static void keptLoaves() {
        fresh(20);
        refuses("keep(3)", BAD, () -> x.keep(3));
        refuses("keep(-1)", BAD, () -> x.keep(-1));
        refuses("keep(0) without", STATE, () -> x.keep(0));
        loaf("y9 s20", "r2:3 x k r3:9");
        x.go(3);
        is("keep(2)", x.keep(2), 3);
        is("count(5)", x.count(5), 1);
        long here = x.digest();
        x.go(1);
        is("keep(0)", x.keep(0), 4);
        is("count(5)", x.count(5), 2);
        long there = x.digest();

        promise = 21;
        flour(0, "y1");
        doing(0, "r9:30");
        loaf("y2", "r1:1");
        is("on(0)", x.on(0), 4);
        is("what fell is kept", x.count(3), 24);
        is("a fall is kept", x.mark(0, 3), 4);
        is("on(2)", x.on(2), 3);
        is("nothing fell there", x.count(3), 0);
        is("what was to come comes", x.go(1), 4);
        is("all fell again", x.count(3), 24);
        is("its own flour", cell(0, 1), 20 - 3 + 10 - 1);
        loaf("y9 s12 w0 t0", "r2:9");
        x.go(9);
        is("on(0) again", x.on(0), 4);
        is("another loaf's falls leave what is kept", x.mark(0, 3), 4);
        is("another loaf's falls leave what is kept", x.mark(2, 3), 14);
        is("turn", x.count(2), 4);
        finds("on(1)", NOTHING, () -> x.on(1));
        refuses("on(3)", BAD, () -> x.on(3));
        refuses("on(-1)", BAD, () -> x.on(-1));
        is("not the same loaf", here == there ? 1 : 0, 0);
    }

    // ---- promises 22 to 24

    private static void heightsHolesCuts() {
        fresh(22);
        refuses("height() without", STATE, () -> x.height());
        loaf("y5 t0", "r2:4");
        tells("height()", x.height(), 120, 120);
        x.go(1);
        tells("gas 10 a layer", x.height(), 120, 120);
        x.go(1);
        tells("gas 20 a layer", x.height(), 132, 132);
        loaf("y9 s20", "r2:3 x");
        x.go(4);
        tells("all torn", x.height(), 48, 0);
        loaf("y1 t9 e0", "o9:30");
        x.go(30);
        tells("all done", x.height(), 120, 144);

        promise = 23;
        x = new LoafFall();
        refuses("holes() without", STATE, () -> x.holes());
        loaf("y9 s20", "r2:3 x");
        tells("no holes", x.holes(), 0, 0);
        x.go(4);
        tells("one hole", x.holes(), 1, 24);
        twoHoles();

        fresh(24);
        refuses("cut(6) without", BAD, () -> x.cut(6));
        refuses("cut(0) without", STATE, () -> x.cut(0));
        loaf("y9 s20", "r2:3 x");
        is("cut(5)", x.cut(5), 0);
        tells("sticky", x.at(5, 23), 1, 2);
        x.go(4);
        x.row(5, 40);
        is("cut(5) anew", x.cut(5), 24);
        tells("torn", x.at(5, 23), 1, 1);
        finds("at(5, 24)", BEYOND, () -> x.at(5, 24));
        loaf("y1 t9 e0", "o9:30");
        x.go(30);
        is("cut(0)", x.cut(0), 0);
        tells("neither", x.at(0, 0), 1, 0);
        refuses("cut(-1)", BAD, () -> x.cut(-1));
    }

    /** Loaves are gone through till there are HOLES apart; they are counted by hand from the CUT. */
    private static void twoHoles() {
        int most = 0;
        for (int y = 1; y <= 9; y += 2) {
            for (int s = 10; s <= 99; s += 3) {
                x = new LoafFall();
                loaf("y" + y + "s" + s + "e9w8t3", "o7:9");
                for (int n = 0; n < 15; n++) {
                    x.go(1);
                    int torn = x.cut(1);
                    int holes = x.holes();
                    is("all torn ones are in holes", torn >= x.asked() + holes - 1 ? 1 : 0, 1);
                    is("holes by hand", holes, holesByHand());
                    most = Math.max(most, holes);
                }
            }
        }
        is("there were holes apart", most >= 2 ? 1 : 0, 1);
        loaf("y7s57e9w8t3", "o7:9");
        x.go(11);
        tells("three holes", x.holes(), 3, 6);
        is("torn", x.count(3), 9);
        loaf("y9s60e4w0t2", "o9:6");
        x.go(8);
        tells("one of side, bottom and top", x.holes(), 1, 14);
        loaf("y5s97e2w5t3", "o9:13 o6:12");
        x.go(31);
        tells("5; 11, 13; 19", x.holes(), 3, 2);
    }

    private static int holesByHand() {
        int[] of = new int[24];
        for (int c = 0; c < 24; c++) {
            x.at(1, c);
            of[c] = x.asked() == 1 ? c : -1;
        }
        for (int round = 0; round < 24; round++) {
            for (int c = 0; c < 24; c++) {
                of[c] = Math.max(of[c], of[c] < 0 ? -1 : of[c ^ 1]);
                if (c >= 2 && of[c] >= 0 && of[c - 2] >= 0) {
                    of[c] = Math.max(of[c], of[c - 2]);
                    of[c - 2] = of[c];
                }
            }
        }
        int holes = 0;
        for (int c = 0; c < 24; c++) {
            holes += of[c] == c ? 1 : 0;
        }
        return holes;
    }

    // ---- promise 25

    private static void fingers() {
        fresh(25);
        refuses("rests(10) without", BAD, () -> x.rests(10));
        refuses("rests(0) without", STATE, () -> x.rests(0));
        loaf("y9 s20 w0", "r2:9 kx");
        String before = state();
        is("rests(2)", x.rests(2), 4);
        is("rests(2), asked again", x.rests(2), 4);
        DUE.is("promise 25: it stays", state(), before);
        x.go(4);
        is("rests(2) in the last turn", x.rests(2), 0);
        x.go(1);
        is("rests(2) with all torn", x.rests(2), 60);
        loaf("y1 t9", "");
        is("rests(9)", x.rests(9), 60);
        loaf("y9 s20", "r2:3 x");
        x.go(3);
        is("no knock comes any more", x.rests(0) > 0 ? 1 : 0, 1);
        loaf("y9 s60", "r2:6 o2:1");
        x.go(7);
        is("undone ones tear by the finger", x.rests(2), 0);
        x.loaf(0, 0);
        x.go(6);
        is("no oven came ahead", x.rests(2) > 0 ? 1 : 0, 1);
        loaf("y5 t5 s99 w9", "");
        x.go(99);
        is("behind turn 99", x.rests(0), 60);
        refuses("rests(-1)", BAD, () -> x.rests(-1));
    }

    // ---- promises 26 to 29

    private static void whyAndOdds() {
        fresh(26);
        finds("why(0) of a missing row", NOTHING, () -> x.why(0));
        fillRow(0, 2);
        finds("why(0) without pairs", NOTHING, () -> x.why(0));
        flour(2, "");
        finds("why(0) without doings", NOTHING, () -> x.why(0));
        x.row(1, 23);
        finds("why(1) without doings", NOTHING, () -> x.why(1));
        doing(3, "");
        finds("why(1) of 23", SIZE, () -> x.why(1));
        x.row(1, 25);
        finds("why(1) of 25", SIZE, () -> x.why(1));
        finds("why(2) of a missing row", NOTHING, () -> x.why(2));
        refuses("why(6)", BAD, () -> x.why(6));
        refuses("why(-1)", BAD, () -> x.why(-1));
        tells("why(0)", x.why(0), 23, 0);
        x.row(4, 40);
        x.lay(4, 24, 9);
        fillRow(4, 2);
        tells("why(4), once longer", x.why(4), 23, 0);
        x.lay(0, 23, 3);
        finds("why(0) with a 3", UNLIKE, () -> x.why(0));
        x.lay(0, 23, -1);
        finds("why(0) with a -1", UNLIKE, () -> x.why(0));
        x.lay(0, 23, 0);
        tells("why(0)", x.why(0), 23, 1);
        flour(0, "y9 s10");
        doing(1, "r5:30");
        tells("why(0)", x.why(0), 23, 1);
        fillRow(1, 1);
        tells("why(1)", x.why(1), 1, 0);
        fillRow(0, 2);
        flour(1, "y1");
        tells("of alike ones the first", x.why(0), 13, 0);

        promise = 27;
        is("odds(0, 1)", x.odds(0, 1), 2);
        is("upper()", x.upper(), 1);
        is("lower()", x.lower(), 2);
        is("odds(0, 3)", x.odds(0, 3), 2);
        is("upper()", x.upper(), 0);
        is("lower()", x.lower(), 1);
        doing(2, "");
        is("odds(0, 2)", x.odds(0, 2), 4);
        is("upper(), in lowest terms", x.upper(), 1);
        is("lower(), in lowest terms", x.lower(), 2);
        int asked = x.asked();
        x.odds(0, 1);
        is("asked() stays", x.asked(), asked);
        refuses("odds(6, 0)", BAD, () -> x.odds(6, 0));
        refuses("odds(0, 4)", BAD, () -> x.odds(0, 4));
        finds("odds(5, 0)", NOTHING, () -> x.odds(5, 0));
        x.row(5, 2);
        finds("odds(5, 0)", SIZE, () -> x.odds(5, 0));
        x.lay(0, 0, 9);
        finds("odds(0, 0)", UNLIKE, () -> x.odds(0, 0));
    }

    private static void sproutAndRack() {
        fresh(28);
        flour(0, "y1 t9");
        doing(0, "o9:12");
        fillRow(0, 0);
        for (int e = 0; e <= 9; e++) {
            flour(1, "y1 t9 e" + e);
            x.loaf(1, 0);
            x.go(18);
            x.cut(1);
            int s = x.sprout(0, 0, 1);
            is("asked()", x.asked(), 0);
            is("the least sprout of that cut, or less", s <= e ? 1 : 0, 1);
        }
        tells("all sticky: 9 is as 3", x.sprout(0, 0, 1), 3, 0);
        is("the flour stays", x.about(0, 2) + 100 * x.asked(), 101);
        refuses("sprout(4, 0, 0)", BAD, () -> x.sprout(4, 0, 0));
        refuses("sprout(0, 4, 0)", BAD, () -> x.sprout(0, 4, 0));
        refuses("sprout(0, 0, 6)", BAD, () -> x.sprout(0, 0, 6));
        finds("sprout(2, 0, 0)", NOTHING, () -> x.sprout(2, 0, 0));
        finds("sprout(0, 1, 0)", NOTHING, () -> x.sprout(0, 1, 0));
        finds("sprout(0, 0, 3)", NOTHING, () -> x.sprout(0, 0, 3));
        x.row(3, 3);
        finds("sprout(2, 0, 3)", NOTHING, () -> x.sprout(2, 0, 3));
        finds("sprout(0, 0, 3)", SIZE, () -> x.sprout(0, 0, 3));
        x.row(3, 24);
        x.lay(3, 3, 3);
        finds("sprout(0, 0, 3)", UNLIKE, () -> x.sprout(0, 0, 3));

        promise = 29;
        doing(1, "r9:8 o7:8");
        for (int off = -2; off <= 2; off++) {
            doing(2, "r9:8 o" + (7 + off) + ":8");
            x.loaf(0, 2);
            x.go(22);
            x.cut(2);
            int told = x.rack(0, 1, 2);
            is("asked()", x.asked(), 0);
            doing(2, "r9:8 o" + (7 + told - 5) + ":8");
            x.loaf(0, 2);
            x.go(22);
            x.cut(4);
            for (int c = 0; c < 24; c++) {
                x.at(2, c);
                int due = x.asked();
                x.at(4, c);
                is("that place makes that cut", x.asked(), due);
            }
            is("not farther than it was", Math.abs(told - 5) <= Math.abs(off) ? 1 : 0, 1);
        }
        doing(1, "o0:3 o9:1");
        fillRow(2, 2);
        tells("of alike ones 0", x.rack(0, 1, 2), 5, 0);
        refuses("rack(-1, 0, 0)", BAD, () -> x.rack(-1, 0, 0));
        refuses("rack(0, -1, 0)", BAD, () -> x.rack(0, -1, 0));
        refuses("rack(0, 0, -1)", BAD, () -> x.rack(0, 0, -1));
        finds("rack(2, 0, 0)", NOTHING, () -> x.rack(2, 0, 0));
        finds("rack(0, 3, 0)", NOTHING, () -> x.rack(0, 3, 0));
        finds("rack(0, 0, 5)", NOTHING, () -> x.rack(0, 0, 5));
        x.row(5, 0);
        finds("rack(0, 0, 5)", SIZE, () -> x.rack(0, 0, 5));
        finds("rack(0, 0, 3)", UNLIKE, () -> x.rack(0, 0, 3));
    }

    // ---- promises 30 and 31

    private static int worthBaked(String flour, String doing, int turns) {
        loaf(flour, doing);
        x.go(turns + 6);
        x.height();
        return x.asked();
    }

    private static void changeAndChanges() {
        fresh(30);
        refuses("change() without", STATE, () -> x.change());
        loaf("", "");
        refuses("change() of none", NONE, () -> x.change());
        loaf("", "k");
        tells("left out", x.change(), 4, 132);
        loaf("y1 t9", "r0:1");
        tells("of alike ones the first that may be", x.change(), 1, 120);
        loaf("y1 t9", "d r9:30 r9:30 o9:30");
        String before = state();
        int worth = worthBaked("y1 t9", "r9:30 r9:30 o9:30", 90);
        loaf("y1 t9", "d r9:30 r9:30 o9:30");
        tells("left out", x.change(), 4, worth);
        before = before.substring(0, before.indexOf(' '));
        DUE.is("promise 30: the loaf stays", Long.toString(x.digest()), before);
        loaf("y1 t9 e0", "o9:8");
        tells("one more turn: the outer ones are done", x.change(), 3, 120 + 14);
        loaf("y1 t0 s99", "r2:29 r2:4");
        tells("up to 30 turns", x.change(), 3, 120 + 4 * 12);
        loaf("y1 t9 e0", "o9:8 r0:30 r0:30 r0:21");
        tells("up to 90 turns", x.change(), 3, 120 + 14);
        loaf("y1 t9 e0", "o9:8 r0:30 r0:30 r0:22");
        tells("not more than 90 turns", x.change(), 0, 120);

        promise = 31;
        x = new LoafFall();
        refuses("changes() without", STATE, () -> x.changes());
        loaf("", "");
        refuses("changes() of none", NONE, () -> x.changes());
        loaf("", "d");
        refuses("changes() of one that is left out", NONE, () -> x.changes());
        loaf("", "dk");
        tells("both left out", x.changes(), 404, 132);
        loaf("y1 t9", "r0:1");
        tells("of alike ones the first", x.changes(), 100, 120);
        loaf("y1 t9", "k r0:30 r0:30 r0:30");
        tells("the other one by the doing that the one makes", x.changes(), 401, 120);
        loaf("y1 t9 e0", "o9:7");
        tells("two more turns: the outer ones are done", x.changes(), 303, 120 + 14);
    }

    // ---- promises 32 and 33

    private static void wideAndFlours() {
        fresh(32);
        refuses("wide(10) without", BAD, () -> x.wide(10));
        refuses("wide(-1) without", BAD, () -> x.wide(-1));
        refuses("wide(9) without", STATE, () -> x.wide(9));
        loaf("y1 t9", "k r2:30r2:30 o2:10r2:5");
        tells("wide(4)", x.wide(4), 1, 20);
        tells("wide(3)", x.wide(3), 1, 25);
        finds("wide(0)", UNLIKE, () -> x.wide(0));
        refuses("wide(5)", BAD, () -> x.wide(5));
        refuses("wide(9)", BAD, () -> x.wide(9));
        loaf("y5 t5 s99", "r2:9 o2:1");
        tells("gas 40 at the end is not too much", x.wide(0), 1, 13);
        loaf("y9 s20 w0", "r2:9");
        refuses("by none", NONE, () -> x.wide(0));

        fresh(33);
        finds("flours(0) without", NOTHING, () -> x.flours(0));
        doing(0, "r2:3 x");
        finds("flours(0) without flours", NOTHING, () -> x.flours(0));
        refuses("flours(4)", BAD, () -> x.flours(4));
        refuses("flours(-1)", BAD, () -> x.flours(-1));
        flour(3, "y9 s20");
        tells("all of it tears", x.flours(0), 0, 8);
        flour(0, "y1 t9");
        flour(2, "y1 t8");
        tells("two tear nothing", x.flours(0), 5, 5);
        flour(1, "y3");
        doing(0, "");
        tells("the best one", x.flours(0), 7, 2);
        finds("flours(1)", NOTHING, () -> x.flours(1));
    }

    // ---- promises 34 to 36

    private static void beginOvenEven() {
        fresh(34);
        refuses("begin(10) without", BAD, () -> x.begin(10));
        refuses("begin(0) without", STATE, () -> x.begin(0));
        loaf("y1 t9", "k o3:4");
        finds("begin(0) without a rest", UNLIKE, () -> x.begin(0));
        refuses("begin(-1)", BAD, () -> x.begin(-1));
        loaf("y1 t9", "o1:2 r5:3 r6:4");
        tells("of alike ones the least", x.begin(2), 1, 7);
        loaf("y1 t0 s99", "r0:3 r9:2");
        tells("all rests are of that warmth", x.begin(2), 22, 24);
        loaf("y1 t0 s99", "r0:3 o0:30 o0:30 r0:20");
        tells("as it could be told", x.begin(2), 10, 90);

        fresh(35);
        refuses("oven(3) without", BAD, () -> x.oven(3));
        refuses("oven(-3) without", BAD, () -> x.oven(-3));
        refuses("oven(0) without", STATE, () -> x.oven(0));
        loaf("y1 t9", "r1:3 k");
        finds("oven(0) without an oven", UNLIKE, () -> x.oven(0));
        loaf("y1 t9", "o3:5 o3:10 r2:1");
        tells("of alike ones the least", x.oven(-1), 1, 0);
        loaf("y1 t9 e0", "r2:1 o9:9");
        tells("its own oven: 8 turns do nothing", x.oven(0), 9, 0);
        tells("9 at most", x.oven(2), 9, 0);
        loaf("y1 t9 e0", "o0:9 r2:1");
        tells("0 at least", x.oven(-2), 1, 0);
        loaf("y1 t9 e0", "o9:9 r2:30r2:30r2:20");
        tells("as it could be told: 10 at most", x.oven(-1), 1, 14);
        loaf("y1 t9 e9", "o9:8");
        tells("nothing sets", x.oven(-2), 1, 0);

        fresh(36);
        refuses("even() without", STATE, () -> x.even());
        loaf("", "o5:5");
        finds("even() without a rest", UNLIKE, () -> x.even());
        loaf("y1 t9 e9", "k r1:1");
        tells("all is sticky: the first", x.even(), 5, 24);
        loaf("y1 t9 e9", "r1:1 r2:30 r2:30 r2:29");
        refuses("it could not be told so", NONE, () -> x.even());
        loaf("y1 t9 e9", "r1:1 r2:30 r2:30 r2:25");
        tells("just so", x.even(), 5, 24);
        loaf("y1 t9 e0", "r1:1 o9:30");
        tells("baked behind it: the first", x.even(), 5, 0);
        loaf("y1 t9 e0", "r1:1");
        int got = x.even();
        is("even() by the rest alone", x.asked(), 0);
        loaf("y1 t9 e0", "r" + got / 100 + ":" + got % 100);
        x.go(got % 100 + 6);
        is("that is even", x.cut(0), 0);
        fillRow(1, 0);
        tells("that is even", x.why(1), 0, 0);
    }

    // ---- promises 37 to 41

    private static void slipsAndLaws() {
        fresh(37);
        refuses("slip(4, 0)", BAD, () -> x.slip(4, 0));
        refuses("slip(-1, 0)", BAD, () -> x.slip(-1, 0));
        refuses("slip(0, 1000)", BAD, () -> x.slip(0, 1000));
        refuses("slip(0, -1)", BAD, () -> x.slip(0, -1));
        for (int s = 0; s < 12; s++) {
            is("slip", x.slip(s % 4, 999 - s), s);
        }
        is("count(6)", x.count(6), 12);
        refuses("slip(0, 0), the thirteenth", FULL, () -> x.slip(0, 0));
        refuses("slip(0, 1000), the thirteenth", BAD, () -> x.slip(0, 1000));

        promise = 38;
        tells("told(0, 0)", x.told(0, 0), 1, 0);
        tells("told(0, 1)", x.told(0, 1), 1, 999);
        tells("told(11, 0)", x.told(11, 0), 1, 3);
        tells("told(11, 1)", x.told(11, 1), 1, 988);
        refuses("told(12, 0)", BAD, () -> x.told(12, 0));
        refuses("told(-1, 0)", BAD, () -> x.told(-1, 0));
        refuses("told(0, 2)", BAD, () -> x.told(0, 2));
        refuses("told(0, -1)", BAD, () -> x.told(0, -1));

        fresh(39);
        refuses("law(4)", BAD, () -> x.law(4));
        finds("law(0) without a flour", NOTHING, () -> x.law(0));
        flour(0, "y9 s99");
        finds("law(0) without slips", NOUGHT, () -> x.law(0));
        x.slip(1, 145);
        finds("law(0) without the slip's doing", NOTHING, () -> x.law(0));
        doing(1, "");
        tells("height 144 by yeast 5, strong 20", x.law(0), 520, 1);
        is("the flour stays", x.about(0, 0), 1);
        is("the flour stays", x.asked(), 9);
        x.slip(1, 119);
        x.slip(1, 121);
        tells("all slips together: 120", x.law(0), 110, 27);
        x.slip(2, 5);
        finds("law(0) without a slip's doing", NOTHING, () -> x.law(0));
        spansAndForetell();
    }

    private static void spansAndForetell() {
        fresh(40);
        refuses("spans(4, 0, 0, true)", BAD, () -> x.spans(4, 0, 0, true));
        refuses("spans(0, 0, 4, true)", BAD, () -> x.spans(0, 0, 4, true));
        refuses("spans(0, 1000, 0, true)", BAD, () -> x.spans(0, 1000, 0, true));
        refuses("spans(0, -1, 0, true)", BAD, () -> x.spans(0, -1, 0, true));
        doing(1, "");
        finds("spans(0, 0, 1, true) without a flour", NOTHING, () -> x.spans(0, 0, 1, true));
        flour(0, "");
        finds("spans(0, 0, 2, true) without the doing", NOTHING, () -> x.spans(0, 0, 2, true));
        finds("spans(0, 0, 1, true) without slips", NOUGHT, () -> x.spans(0, 0, 1, true));
        x.slip(3, 145);
        finds("spans(0, 0, 1, true) without the slip's", NOTHING, () -> x.spans(0, 0, 1, true));
        doing(3, "");
        tells("spans(0, 0, 1, true)", x.spans(0, 0, 1, true), 16, 144);
        tells("spans(0, 9, 1, true)", x.spans(0, 9, 1, true), 16, 144);
        tells("spans(0, 11, 1, true)", x.spans(0, 11, 1, true), 31, 156);
        tells("spans(0, 11, 1, false)", x.spans(0, 11, 1, false), 31, 144);
        tells("spans(0, 999, 1, false)", x.spans(0, 999, 1, false), 81, 48);

        promise = 41;
        doing(2, "r2:6");
        tells("foretell(0, 3)", x.foretell(0, 3), 144, 144);
        tells("foretell(0, 2): all is torn in turn 7", x.foretell(0, 2), 48, 0);
        refuses("foretell(4, 0)", BAD, () -> x.foretell(4, 0));
        refuses("foretell(0, -1)", BAD, () -> x.foretell(0, -1));
        finds("foretell(1, 2)", NOTHING, () -> x.foretell(1, 2));
        finds("foretell(0, 0)", NOTHING, () -> x.foretell(0, 0));
        x = new LoafFall();
        flour(0, "");
        finds("foretell(0, 0) without both", NOTHING, () -> x.foretell(0, 0));
        doing(0, "");
        finds("foretell(0, 0) without slips", NOUGHT, () -> x.foretell(0, 0));
        x.slip(1, 0);
        finds("foretell(0, 0) without the slip's", NOTHING, () -> x.foretell(0, 0));
    }

    // ---- promises 42 to 48

    private static void whatIsTold() {
        fresh(42);
        x.row(0, 2);
        x.lay(0, 0, 5);
        tells("at", x.at(0, 0), 1, 5);
        refuses("at(9, 9)", BAD, () -> x.at(9, 9));
        finds("at(0, 9)", BEYOND, () -> x.at(0, 9));
        is("asked() stays", x.asked(), 5);
        loaf("", "");
        x.go(3);
        x.cut(2);
        x.rests(2);
        x.keep(0);
        x.count(3);
        x.digest();
        x.slip(0, 77);
        is("asked() of calls that do not tell by it", x.asked(), 5);
        x.told(0, 1);
        is("asked()", x.asked(), 77);

        fresh(43);
        flour(0, "");
        flour(1, "");
        flour(2, "");
        doing(0, "");
        fillRow(0, 2);
        is("upper() before", x.upper(), 0);
        x.odds(0, 1);
        is("upper()", x.upper(), 1);
        refuses("odds(0, 9)", BAD, () -> x.odds(0, 9));
        promise = 44;
        is("lower()", x.lower(), 3);
        doing(1, "");
        x.odds(0, 1);
        is("lower(), in lowest terms", x.lower(), 3);
        is("lower() before", new LoafFall().lower(), 1);

        fresh(45);
        refuses("count(-1)", BAD, () -> x.count(-1));
        refuses("count(9)", BAD, () -> x.count(9));
        x.row(0, 0);
        x.row(3, 1);
        x.row(5, 1);
        x.tear(3);
        flour(3, "");
        doing(2, "");
        doing(0, "");
        x.text(2, 0);
        x.slip(0, 0);
        x.loaf(3, 0);
        x.go(5);
        x.keep(1);
        x.keep(1);
        int[] due = {1, 2, 5, 0, 0, 1, 1, 2, 2};
        for (int what = 0; what <= 8; what++) {
            is("count(" + what + ")", x.count(what), due[what]);
        }

        fresh(46);
        is("finding() before any", x.finding(), 0);
        finds("mean(0)", NOTHING, () -> x.mean(0));
        finds("row(0, -1)", SIZE, () -> x.row(0, -1));
        refuses("row(0, 99)", BAD, () -> x.row(0, 99));
        is("finding()", x.finding(), SIZE);

        promise = 47;
        finds("mean(0)", NOTHING, () -> x.mean(0));
        int[] times = {2, 0, 0, 0, 1};
        for (int f = 1; f <= 5; f++) {
            is("findings(" + f + ")", x.findings(f), times[f - 1]);
        }
        refuses("findings(0)", BAD, () -> x.findings(0));
        refuses("findings(6)", BAD, () -> x.findings(6));
    }

    private static long fold(long... values) {
        long h = 17;
        for (long v : values) {
            h = 31 * h + v;
        }
        return h;
    }

    private static void digests() {
        fresh(48);
        long[] none = {0, 0, 0, 0, 0, 0, 0, 0, 0, -1, -1, -1, -1, -1, -1, -1, -1, -1, -1, -1, -1, -1, -1, -1,
            -1, -1, -1, -1};
        is("digest() of a new one", x.digest(), fold(none));
        x.row(1, 2);
        x.lay(1, 1, -7);
        x.text(3, 1);
        x.put(3, 0, 255);
        x.slip(2, 321);
        is("digest() of rows, texts, slips", x.digest(), fold(0, 0, 0, 0, 0, 0, 1, 1, 1, -1, -1, -1, -1,
                -1, -1, -1, -1, -1, 2, 321, -1, 2, 0, -7, -1, -1, -1, -1, -1, -1, -1, 1, -1));
        is("asked() stays", x.asked(), 0);
        loafDigest();
    }

    private static void loafDigest() {
        x = new LoafFall();
        write(0, "y9 s20");
        x.flour(1, 0);
        write(1, "r2:3x");
        x.doing(2, 1);
        doing(0, "");
        x.loaf(1, 2);
        x.go(4);
        long h = fold(1, 2, 4, 24, 0, 0, 0, 0, 2, -1, 9, 20, 1, 4, 2, -1, -1, -1, 1, 203, 4, 0, -1);
        for (int c = 0; c < 24; c++) {
            for (int what = 0; what < 5; what++) {
                h = 31 * h + cell(c, what);
            }
        }
        for (int k = 0; k < 24; k++) {
            for (int what = 0; what < 4; what++) {
                h = 31 * h + fall(k, what);
            }
        }
        for (int v : new int[] {-1, -1, -1, -1, -1, -1, 0, 5, 'r', '2', ':', '3', 'x', -1, -1}) {
            h = 31 * h + v;
        }
        is("digest() with a loaf", x.digest(), h);
    }
}

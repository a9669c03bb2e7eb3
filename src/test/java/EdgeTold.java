import java.util.ArrayList;
import java.util.List;

/** Edges of promises 42 to 48: what is told before any call and behind refused ones, counts, digest(). */
final class EdgeTold {
    private static final String NEVER = "y1t9e9";

    private EdgeTold() {
    }

    static void addTo(Edges edges) {
        askedTold(edges);
        askedStays(edges);
        askedRefused(edges);
        fractions(edges);
        countsAtFirst(edges);
        countsAtMost(edges);
        countsOfLoaves(edges);
        finding(edges);
        findings(edges);
        digestOfNothing(edges);
        digestOfTexts(edges);
        digestOfLoaf(edges);
        digestStays(edges);
    }

    /** Marks asked() by 777, then asks. */
    private static void tellsAnew(Run t, String call, long answer, long asked) {
        t.tells("at(5, 0)", 777);
        t.tells(call, answer, asked);
    }

    private static void marked(Run t) {
        t.is("row(5, 2)", 2);
        t.is("lay(5, 0, 777)", 1);
    }

    // ---- 42

    private static void askedTold(Edges edges) {
        edges.test(42, "What the latest lay(), at(), mean(), about(), step(), cell(), fall(), height(), holes()", t -> {
            t.is("asked()", 0);
            marked(t);
            t.loaf("y9s20", "r2:3x");
            t.is("go(4)", 4);
            tellsAnew(t, "lay(5, 1, 3)", 1, 0);
            tellsAnew(t, "at(5, 1)", 1, 3);
            tellsAnew(t, "mean(5)", 1, 390);
            tellsAnew(t, "about(0, 1)", 1, 20);
            tellsAnew(t, "step(0, 0)", 1, 203);
            tellsAnew(t, "step(0, 1)", 4, 0);
            tellsAnew(t, "cell(0, 1)", 1, 16);
            tellsAnew(t, "fall(0, 2)", 1, 21);
            tellsAnew(t, "height()", 48, 0);
            tellsAnew(t, "holes()", 1, 24);
        });
        edges.test(42, "why(), sprout(), rack(), change(), changes(), wide(), flours(), begin(), oven(), even(), told(), law(), spans(), foretell()", t -> {
            marked(t);
            t.loaf(NEVER, "r0:1o0:1");
            t.is("row(0, 24)", 24);
            t.is("slip(0, 119)", 0);
            tellsAnew(t, "why(0)", 0, 24);
            tellsAnew(t, "sprout(0, 0, 0)", 0, 24);
            tellsAnew(t, "rack(0, 0, 0)", 5, 24);
            tellsAnew(t, "change()", 1, 120);
            tellsAnew(t, "changes()", 100, 120);
            tellsAnew(t, "wide(0)", 1, 30);
            tellsAnew(t, "flours(0)", 1, 1);
            tellsAnew(t, "begin(2)", 1, 2);
            tellsAnew(t, "oven(0)", 1, 0);
            tellsAnew(t, "even()", 5, 24);
            tellsAnew(t, "told(0, 1)", 1, 119);
            tellsAnew(t, "law(0)", 110, 1);
            tellsAnew(t, "spans(0, 0, 0, true)", 81, 120);
            tellsAnew(t, "foretell(0, 0)", 120, 120);
        });
    }

    private static void askedStays(Edges edges) {
        edges.test(42, "that was not refused (nor NONE) told; 0 before", t -> {
            t.is("asked()", 0);
            marked(t);
            t.flour(0, NEVER);
            t.doing(0, "r2:9");
            t.tells("at(5, 0)", 777);
            String[] others = {"row(0, 24)", "row(1, 2)", "tear(1)", "copy(5, 0, 5, 1, 1)", "text(0, 2)",
                "put(0, 0, 107)", "fault(0, true)", "doing(1, 0)", "text(0, 0)", "flour(1, 0)", "loaf(0, 0)", "go(3)",
                "keep(0)", "on(0)", "cut(0)", "rests(2)", "odds(0, 0)", "slip(0, 5)", "count(3)", "finding()",
                "findings(1)", "digest()", "upper()", "lower()", "asked()"};
            for (String call : others) {
                t.take(call);
                t.is("asked()", 777);
            }
            t.loaf("y9s20", "r2:3x");
            t.is("go(4)", 4);
            t.tells("at(5, 0)", 777);
            t.is("mark(0, 3)", 4);
            t.is("asked()", 777);
        });
    }

    /** Each call that tells by asked(), once refused and, where it may be so, once NONE; Run looks at asked(). */
    private static void askedRefused(Edges edges) {
        edges.test(42, "that was not refused (nor NONE)", t -> {
            marked(t);
            t.tells("at(5, 0)", 777);
            t.bad("lay(6, 0, 1)", "at(6, 0)", "mean(6)", "about(4, 0)", "step(4, 0)", "cell(24, 0)", "fall(0, 0)",
                    "told(0, 0)");
            t.refuses("height()", Run.STATE);
            t.refuses("holes()", Run.STATE);
            t.finds("why(0)", Run.NOTHING);
            t.finds("sprout(0, 0, 0)", Run.NOTHING);
            t.finds("rack(0, 0, 0)", Run.NOTHING);
            t.refuses("change()", Run.STATE);
            t.refuses("changes()", Run.STATE);
            t.refuses("wide(0)", Run.STATE);
            t.finds("flours(0)", Run.NOTHING);
            t.refuses("begin(0)", Run.STATE);
            t.refuses("oven(0)", Run.STATE);
            t.refuses("even()", Run.STATE);
            t.finds("law(0)", Run.NOTHING);
            t.finds("spans(0, 0, 0, true)", Run.NOTHING);
            t.finds("foretell(0, 0)", Run.NOTHING);
            t.is("asked()", 777);
        });
        edges.test(42, "(nor NONE)", t -> {
            marked(t);
            t.loaf("y9s25w4", "");
            t.tells("at(5, 0)", 777);
            t.refuses("change()", Run.NONE);
            t.refuses("changes()", Run.NONE);
            t.loaf("y9s25w4", "r2:9");
            t.refuses("wide(0)", Run.NONE);
            t.loaf("y9s25w4", "r1:1r2:30r2:30r2:26");
            t.refuses("even()", Run.NONE);
            t.is("asked()", 777);
        });
    }

    // ---- 43, 44

    private static void fractions(Edges edges) {
        for (int promise = 43; promise <= 44; promise++) {
            edges.test(promise, promise == 43 ? "The upper number of the fraction that was told last; 0 before."
                    : "Its lower number; 1 before.", t -> {
                    t.is("upper()", 0);
                    t.is("lower()", 1);
                    t.bad("odds(0, 4)");
                    t.finds("odds(0, 0)", Run.NOTHING);
                    t.row(0, "2".repeat(24));
                    t.flour(0, NEVER);
                    t.flour(1, NEVER);
                    t.flour(2, NEVER);
                    t.doing(0, "");
                    t.doing(1, "");
                    t.parts("odds(0, 0)", 6, 1, 3);
                    t.bad("odds(0, 4)", "odds(6, 0)");
                    t.finds("odds(1, 0)", Run.NOTHING);
                    t.tells("why(0)", 0, 0);
                    t.is("upper()", 1);
                    t.is("lower()", 3);
                    t.parts("odds(0, 3)", 6, 0, 1);
                });
        }
    }

    // ---- 45

    private static void countsAtFirst(Edges edges) {
        edges.test(45, "8 TEXTS that are there. BAD.", t -> {
            for (int what = 0; what <= 8; what++) {
                t.is("count(" + what + ")", 0);
            }
            t.bad("count(-1)", "count(9)", "count(LOW)", "count(HIGH)");
        });
        edges.test(45, "2 the LOAF's TURN (0: none)", t -> {
            t.is("count(2)", 0);
            t.loaf("", "");
            t.is("count(2)", 0);
            t.is("go(99)", 99);
            t.is("count(2)", 99);
            t.refuses("go(1)", Run.SPENT);
            t.is("count(2)", 99);
            t.is("loaf(0, 0)", 0);
            t.is("count(2)", 0);
        });
    }

    private static void countsAtMost(Edges edges) {
        edges.test(45, "0 FLOURS, 1 DOINGS ... 5 kept LOAVES, 6 SLIPS, 7 ROWS, 8 TEXTS that are there", t -> {
            for (int k = 0; k <= 3; k++) {
                t.is("text(" + k + ", 0)", 0);
                t.is("count(8)", k + 1);
                t.is("flour(" + k + ", 0)", 0);
                t.is("count(0)", k + 1);
                t.is("doing(" + k + ", 0)", 0);
                t.is("count(1)", k + 1);
            }
            for (int r = 0; r <= 5; r++) {
                t.is("row(" + r + ", 0)", 0);
                t.is("count(7)", r + 1);
            }
            t.is("tear(3)", 1);
            t.is("count(7)", 5);
            t.is("loaf(0, 0)", 0);
            for (int k = 0; k <= 2; k++) {
                t.is("keep(" + k + ")", 0);
                t.is("count(5)", k + 1);
            }
            for (int s = 0; s < 12; s++) {
                t.is("slip(0, 0)", s);
                t.is("count(6)", s + 1);
            }
            t.is("flour(3, 0)", 0);
            t.is("doing(3, 0)", 0);
            t.is("keep(2)", 0);
            t.refuses("slip(0, 0)", Run.FULL);
            int[] due = {4, 4, 0, 0, 0, 3, 12, 5, 4};
            for (int what = 0; what <= 8; what++) {
                t.is("count(" + what + ")", due[what]);
            }
        });
    }

    private static void countsOfLoaves(Edges edges) {
        edges.test(45, "3 FALLS, 4 UNDONE ones (SPROUTED, too)", t -> {
            t.loaf("y9s20", "r2:3x");
            t.is("keep(0)", 0);
            t.is("go(4)", 4);
            t.falls(24);
            t.is("count(4)", 0);
            t.is("on(0)", 0);
            t.falls(0);
            t.loaf("y5t5s99", "o2:24o4:1r9:1");
            t.is("go(26)", 26);
            t.falls(10);
            t.is("count(4)", 10);
            t.loaf("y9s60e5", "o2:6");
            t.is("go(7)", 7);
            t.falls(24);
            t.is("count(4)", 24);
            t.is("loaf(0, 0)", 6);
            t.falls(0);
            t.is("count(4)", 0);
        });
    }

    // ---- 46, 47

    private static void finding(Edges edges) {
        edges.test(46, "The latest FINDING (0 before any).", t -> {
            t.is("finding()", 0);
            t.bad("row(6, 0)");
            t.is("finding()", 0);
            t.is("row(0, 0)", 0);
            t.finds("row(0, -1)", Run.SIZE);
            t.is("finding()", Run.SIZE);
            t.finds("mean(0)", Run.NOUGHT);
            t.finds("at(0, 0)", Run.BEYOND);
            t.finds("at(1, 0)", Run.NOTHING);
            t.refuses("height()", Run.STATE);
            t.bad("at(6, 0)");
            t.is("row(1, 0)", 0);
            t.is("finding()", Run.NOTHING);
            t.loaf("", "");
            t.finds("even()", Run.UNLIKE);
            t.refuses("change()", Run.NONE);
            t.is("finding()", Run.UNLIKE);
        });
    }

    private static void findings(Edges edges) {
        edges.test(47, "How often a FINDING (1 .. 5) was answered. BAD.", t -> {
            t.bad("findings(0)", "findings(6)", "findings(-1)", "findings(LOW)", "findings(HIGH)");
            t.loaf("", "");
            t.is("row(0, 0)", 0);
            for (int times = 1; times <= 3; times++) {
                t.finds("at(1, 0)", Run.NOTHING);
                t.finds("at(0, 0)", Run.BEYOND);
                t.finds("even()", Run.UNLIKE);
                t.finds("mean(0)", Run.NOUGHT);
                t.finds("row(0, -1)", Run.SIZE);
                for (int f = 1; f <= 5; f++) {
                    t.is("findings(" + f + ")", times);
                }
            }
            t.bad("findings(0)", "findings(6)");
        });
    }

    // ---- 48

    private static long fold(List<Integer> values) {
        long h = 17;
        for (int v : values) {
            h = 31 * h + v;
        }
        return h;
    }

    private static void addAll(List<Integer> to, int... values) {
        for (int v : values) {
            to.add(v);
        }
    }

    private static void addMissing(List<Integer> to, int times) {
        for (int i = 0; i < times; i++) {
            to.add(-1);
        }
    }

    private static void digestOfNothing(Edges edges) {
        edges.test(48, "(-1 once: missing) ... of the LOAF (-1 once: none) ... its size (-1: missing)", t -> {
            List<Integer> v = new ArrayList<>();
            addAll(v, 0, 0, 0, 0, 0, 0, 0, 0, 0);
            addMissing(v, 4 + 4 + 1 + 6 + 4);
            t.is("digest()", fold(v));
            t.finds("at(0, 0)", Run.NOTHING);
            t.is("digest()", fold(v));
        });
        edges.test(48, "of each SLIP told() 0, 1; of each ROW its size (-1: missing) and places, of each TEXT likewise", t -> {
            t.is("row(0, 0)", 0);
            t.is("row(5, 2)", 2);
            t.is("lay(5, 0, LOW)", 1);
            t.is("lay(5, 1, HIGH)", 1);
            t.is("text(0, 3)", 3);
            t.is("put(0, 0, -128)", 1032);
            t.is("put(0, 1, 127)", 1032);
            t.is("text(2, 0)", 0);
            t.is("slip(3, 999)", 0);
            t.is("slip(0, 0)", 1);
            List<Integer> v = new ArrayList<>();
            addAll(v, 0, 0, 0, 0, 0, 0, 2, 2, 2);
            addMissing(v, 4 + 4 + 1);
            addAll(v, 3, 999, 0, 0);
            addAll(v, 0, -1, -1, -1, -1, 2, Integer.MIN_VALUE, Integer.MAX_VALUE);
            addAll(v, 3, -128, 127, 32, -1, 0, -1);
            t.is("digest()", fold(v));
        });
    }

    private static void digestOfTexts(Edges edges) {
        edges.test(48, "of each FLOUR (-1 once: missing) about() 0 to 4; of each DOING (-1 once: missing) of each STEP", t -> {
            t.is("text(3, 0)", 0);
            t.is("flour(0, 3)", 0);
            t.is("doing(2, 3)", 0);
            t.flour(3, "y1s99e9w0t0");
            t.doing(1, "r0:1o9:30k");
            List<Integer> v = new ArrayList<>();
            addAll(v, 2, 2, 0, 0, 0, 0, 0, 0, 1);
            addAll(v, 3, 40, 1, 4, 2, -1, -1, 1, 99, 9, 0, 0);
            addAll(v, -1, 1, 1, 2, 930, 3, 0, -1);
            addMissing(v, 1 + 6 + 3);
            addAll(v, 10, 'r', '0', ':', '1', 'o', '9', ':', '3', '0', 'k');
            t.is("digest()", fold(v));
        });
    }

    private static void digestOfLoaf(Edges edges) {
        edges.test(48, "of each CELL cell() 0 to 4, of each FALL fall() 0 to 3", t -> {
            t.is("text(3, 0)", 0);
            t.is("doing(0, 3)", 0);
            t.flour(0, "y9s20w0");
            t.is("loaf(0, 0)", 0);
            t.is("keep(2)", 0);
            List<Integer> v = new ArrayList<>();
            addAll(v, 1, 1, 0, 0, 0, 1, 0, 0, 1, 9, 20, 1, 0, 2);
            addMissing(v, 3 + 3);
            for (int c = 0; c < 24; c++) {
                addAll(v, 0, 20, 20, 0, 0);
            }
            addMissing(v, 6 + 3);
            addAll(v, 7, 'y', '9', 's', '2', '0', 'w', '0');
            t.is("digest()", fold(v));
            t.is("go(5)", 5);
            v.clear();
            addAll(v, 1, 1, 5, 24, 0, 1, 0, 0, 1, 9, 20, 1, 0, 2);
            addMissing(v, 3 + 3);
            for (int c = 0; c < 24; c++) {
                addAll(v, 0, 15, 20, 0, 1);
            }
            int gas = 0;
            for (int c = 0; c < 24; c++) {
                gas = c % 2 == 0 ? 35 + gas / 2 : gas;
                addAll(v, 0, c, gas, 4);
            }
            addMissing(v, 6 + 3);
            addAll(v, 7, 'y', '9', 's', '2', '0', 'w', '0');
            t.is("digest()", fold(v));
        });
    }

    private static void digestStays(Edges edges) {
        edges.test(48, "what it tells, not the 1 that it answers; asked() stays", t -> {
            t.is("row(5, 1)", 1);
            t.is("lay(5, 0, 777)", 1);
            t.loaf("y9s20w0", "r2:9k");
            t.is("slip(0, 5)", 0);
            t.is("go(5)", 5);
            t.tells("at(5, 0)", 777);
            long h = t.take("digest()");
            t.is("asked()", 777);
            t.is("digest()", h);
        });
    }
}

/** Edges of promises 10 to 14: what a TEXT may be, FLOURS, DOINGS. */
final class EdgeTexts {
    private EdgeTexts() {
    }

    static void addTo(Edges edges) {
        flourBlanks(edges);
        flourItems(edges);
        flourRanges(edges);
        flourFaults(edges);
        doingBlanks(edges);
        doingSteps(edges);
        doingWarmths(edges);
        doingTurns(edges);
        faultRefused(edges);
        flour(edges);
        doing(edges);
        about(edges);
        step(edges);
    }

    // ---- TEXT 0 is read as one kind; what it makes is FLOUR 2, DOING 2

    private static void flourIs(Run t, String signs, int items) {
        t.text(0, signs);
        t.is("fault(0, false)", Run.NONE);
        t.is("flour(2, 0)", items);
    }

    private static void doingIs(Run t, String signs, int steps) {
        t.text(0, signs);
        t.is("fault(0, true)", Run.NONE);
        t.is("doing(2, 0)", steps);
    }

    private static void noFlour(Run t, String signs, int fault) {
        t.text(0, signs);
        t.is("fault(0, false)", fault);
        t.refuses("flour(2, 0)", Run.STATE);
    }

    private static void noDoing(Run t, String signs, int fault) {
        t.text(0, signs);
        t.is("fault(0, true)", fault);
        t.refuses("doing(2, 0)", Run.STATE);
    }

    private static void step(Run t, int i, int kind, int asked) {
        t.tells("step(2, " + i + ")", kind, asked);
    }

    // ---- a FLOUR's TEXT

    private static void flourBlanks(Edges edges) {
        edges.test(10, "blanks (32) ahead, between, behind as many as wanted", t -> {
            flourIs(t, " ", 0);
            flourIs(t, " ".repeat(80), 0);
            flourIs(t, " ".repeat(78) + "y1", 1);
            flourIs(t, "y1" + " ".repeat(78), 1);
            flourIs(t, "y1" + " ".repeat(76) + "t0", 2);
            flourIs(t, "y1t0", 2);
            noFlour(t, "y1" + (char) 31 + "t0", 2);
            noFlour(t, "y1" + (char) 33 + "t0", 2);
            noFlour(t, (char) 9 + "y1", 0);
            noFlour(t, "y1" + (char) 10, 2);
            noFlour(t, "y1" + (char) 0, 2);
            noFlour(t, "y1" + (char) 160, 2);
        });
        edges.test(10, "none within items", t -> {
            noFlour(t, "y 1", 1);
            noFlour(t, "y ", 1);
            noFlour(t, "s1 0", 2);
            noFlour(t, "e1 0", 3);
            flourIs(t, "e1 w0", 2);
        });
    }

    private static void flourItems(Edges edges) {
        edges.test(10, "Items (perhaps none)", t -> {
            t.is("text(0, 0)", 0);
            t.is("fault(0, false)", Run.NONE);
            t.is("flour(2, 0)", 0);
        });
        edges.test(10, "a letter and a number (one or two figures", t -> {
            flourIs(t, "y1", 1);
            flourIs(t, "y01", 1);
            noFlour(t, "y001", 3);
            noFlour(t, "e000", 3);
            noFlour(t, "s999", 3);
            noFlour(t, "1", 0);
            noFlour(t, "yy1", 1);
            noFlour(t, "y/", 1);
            noFlour(t, "y:", 1);
            noFlour(t, "e1/", 2);
            noFlour(t, "e1:", 2);
            noFlour(t, "s1/", 2);
            noFlour(t, "y-1", 1);
            noFlour(t, "y" + (char) ('1' + 128), 1);
        });
        edges.test(10, "y (121) YEAST ... s (115) STRONG ... e (101) SPROUT ... w (119) WET ... t (116) SALT", t -> {
            flourIs(t, "y9s99e8w7t6", 5);
            for (int other : new int[] {120, 122, 114, 100, 102, 118, 117, 89, 121 + 128}) {
                noFlour(t, " " + (char) other + "1", 1);
            }
        });
    }

    private static void flourRanges(Edges edges) {
        edges.test(10, "YEAST 1 .. 9", t -> {
            noFlour(t, "y0", 2);
            noFlour(t, "y00", 3);
            flourIs(t, "y1", 1);
            t.tells("about(2, 0)", 1);
            flourIs(t, "y9", 1);
            t.tells("about(2, 0)", 9);
            flourIs(t, "y09", 1);
            t.tells("about(2, 0)", 9);
            noFlour(t, "y10", 3);
            noFlour(t, "y99", 3);
        });
        edges.test(10, "STRONG 10 .. 99", t -> {
            noFlour(t, "s0", 2);
            noFlour(t, "s9", 2);
            noFlour(t, "s09", 3);
            flourIs(t, "s10", 1);
            t.tells("about(2, 1)", 10);
            flourIs(t, "s99", 1);
            t.tells("about(2, 1)", 99);
            noFlour(t, "s100", 3);
        });
        String[] names = {"SPROUT 0 .. 9", "WET 0 .. 9", "SALT 0 .. 9"};
        for (int i = 0; i < 3; i++) {
            char letter = "ewt".charAt(i);
            String about = "about(2, " + (i + 2) + ")";
            edges.test(10, names[i], t -> {
                flourIs(t, letter + "0", 1);
                t.tells(about, 0);
                flourIs(t, letter + "00", 1);
                t.tells(about, 0);
                flourIs(t, letter + "9", 1);
                t.tells(about, 9);
                noFlour(t, letter + "10", 3);
                noFlour(t, letter + "99", 3);
            });
        }
    }

    private static void flourFaults(Edges edges) {
        edges.test(10, "A FAULT is the first place at which it can't go on so", t -> {
            noFlour(t, "q", 0);
            noFlour(t, "y1 q", 3);
            noFlour(t, "y0 s9", 2);
            noFlour(t, "y1 s9 y0 q", 5);
            noFlour(t, "yq", 1);
            t.is("text(0, 80)", 80);
            t.is("put(0, 79, 113)", 1032);
            t.is("fault(0, false)", 79);
        });
        edges.test(10, "(a number out of these: the place behind", t -> {
            noFlour(t, "y0", 2);
            noFlour(t, "y0   ", 2);
            noFlour(t, "y0t1", 2);
            noFlour(t, "y10t1", 3);
            noFlour(t, "  s9 y1", 4);
            noFlour(t, " ".repeat(77) + "w10", 80);
        });
        edges.test(10, "the TEXT's size, if its end comes too early)", t -> {
            noFlour(t, "y", 1);
            noFlour(t, "t1 y", 4);
            noFlour(t, " ".repeat(79) + "y", 80);
            noFlour(t, "y1t", 3);
        });
    }

    // ---- a DOING's TEXT

    private static void doingBlanks(Edges edges) {
        edges.test(10, "blanks likewise", t -> {
            doingIs(t, " ", 0);
            doingIs(t, " ".repeat(80), 0);
            doingIs(t, " ".repeat(79) + "k", 1);
            doingIs(t, "k" + " ".repeat(79), 1);
            doingIs(t, "r1:1" + " ".repeat(75) + "d", 2);
            doingIs(t, "r1:1d", 2);
            noDoing(t, "r 1:1", 1);
            noDoing(t, "r1 :1", 2);
            noDoing(t, "r1: 1", 3);
            noDoing(t, "r1:1 0", 5);
            noDoing(t, "k" + (char) 31, 1);
            noDoing(t, "k" + (char) 33, 1);
            noDoing(t, "k" + (char) 0, 1);
        });
    }

    private static void doingSteps(Edges edges) {
        edges.test(10, "STEPS (none, or 10 at most)", t -> {
            t.is("text(0, 0)", 0);
            t.is("fault(0, true)", Run.NONE);
            t.is("doing(2, 0)", 0);
            doingIs(t, "kxdkxdkxdk", 10);
            doingIs(t, "kxdkxdkxdk   ", 10);
            doingIs(t, "r1:9".repeat(10), 10);
        });
        edges.test(10, "an eleventh STEP: its letter", t -> {
            noDoing(t, "kxdkxdkxdkx", 10);
            noDoing(t, "kxdkxdkxdk  d", 12);
            noDoing(t, "kxdkxdkxdkr1:1", 10);
            noDoing(t, "kxdkxdkxdko", 10);
            noDoing(t, "kkkkkkkkkkkk", 10);
        });
        edges.test(10, "r (114) w : (58) n REST, o (111) w : n OVEN", t -> {
            doingIs(t, "r1:1o2:2", 2);
            step(t, 0, 1, 101);
            step(t, 1, 2, 202);
            noDoing(t, "r", 1);
            noDoing(t, "r1", 2);
            noDoing(t, "r1;1", 2);
            noDoing(t, "r191", 2);
            noDoing(t, "r1k", 2);
            noDoing(t, "r1:", 3);
            noDoing(t, "r1::", 3);
            noDoing(t, "o1:k", 3);
            noDoing(t, "o" + (char) ('1' + 128) + ":1", 1);
        });
        edges.test(10, "k (107) KNEAD, x (120) KNOCK, d (100) DOOR", t -> {
            doingIs(t, "kxd", 3);
            step(t, 0, 3, 0);
            step(t, 1, 4, 0);
            step(t, 2, 5, 0);
            for (int other : new int[] {106, 108, 119, 121, 99, 101, 113, 115, 110, 112, 75, 107 + 128}) {
                noDoing(t, " " + (char) other, 1);
            }
            noDoing(t, "k1", 1);
            noDoing(t, "d:1", 1);
        });
    }

    private static void doingWarmths(Edges edges) {
        edges.test(10, "of WARMTH w (0 .. 9, one figure)", t -> {
            doingIs(t, "r0:1", 1);
            step(t, 0, 1, 1);
            doingIs(t, "o9:1", 1);
            step(t, 0, 2, 901);
            noDoing(t, "r10:1", 2);
            noDoing(t, "r00:1", 2);
        });
        edges.test(10, "w no figure: its place", t -> {
            noDoing(t, "r:1", 1);
            noDoing(t, "r/:1", 1);
            noDoing(t, "o::1", 1);
            noDoing(t, "oo1:1", 1);
            noDoing(t, "r-1:1", 1);
            noDoing(t, "k o", 3);
        });
    }

    private static void doingTurns(Edges edges) {
        edges.test(10, "for n TURNS (1 .. 30, one or two figures", t -> {
            noDoing(t, "r1:0", 4);
            noDoing(t, "r1:00", 5);
            doingIs(t, "r1:1", 1);
            step(t, 0, 1, 101);
            doingIs(t, "r1:01", 1);
            step(t, 0, 1, 101);
            doingIs(t, "o1:30", 1);
            step(t, 0, 2, 130);
            noDoing(t, "o1:31", 5);
            noDoing(t, "o1:99", 5);
            noDoing(t, "o1:010", 5);
            noDoing(t, "o1:300", 5);
            noDoing(t, "o1:-1", 3);
        });
        edges.test(10, "all together 90 at most", t -> {
            doingIs(t, "r1:30o1:30r1:30", 3);
            doingIs(t, "r1:30o1:30r1:29o1:1", 4);
            doingIs(t, "r1:30o1:30r1:30kxd", 6);
            noDoing(t, "r1:30o1:30r1:30o1:1", 19);
            noDoing(t, "r1:30o1:30r1:29o1:2", 19);
            noDoing(t, "r1:9".repeat(9) + "r1:10", 41);
        });
        edges.test(10, "n out of these, or too many together: the place behind", t -> {
            noDoing(t, "r1:0k", 4);
            noDoing(t, "r1:31 k", 5);
            noDoing(t, "r1:30r1:30r1:30 r1:1 k", 20);
            noDoing(t, "r1:30r1:30r1:25 r1:30", 21);
            noDoing(t, "r1:30r1:30r1:30 r1:0", 20);
            noDoing(t, "k r1:0 q", 6);
        });
        edges.test(10, "A FAULT likewise", t -> {
            noDoing(t, "q", 0);
            noDoing(t, "k q", 2);
            noDoing(t, "r1:0 r1:0 q", 4);
            noDoing(t, " ".repeat(79) + "r", 80);
            noDoing(t, " ".repeat(78) + "r1", 80);
            noDoing(t, " ".repeat(77) + "r1:", 80);
            noDoing(t, " ".repeat(79) + "q", 79);
        });
    }

    // ---- the calls

    private static void faultRefused(Edges edges) {
        edges.test(10, "A FAULT of a TEXT of a FLOUR (doing: of a DOING); NONE: there is none. BAD; NOTHING.", t -> {
            t.text(0, "y1");
            t.text(3, "k");
            t.refuses("fault(0, false)", Run.NONE);
            t.refuses("fault(3, true)", Run.NONE);
            t.is("fault(0, true)", 0);
            t.is("fault(3, false)", 0);
            t.bad("fault(-1, false)", "fault(4, true)", "fault(LOW, true)", "fault(HIGH, false)");
            t.finds("fault(1, false)", Run.NOTHING);
            t.finds("fault(2, true)", Run.NOTHING);
        });
    }

    private static void flour(Edges edges) {
        edges.test(11, "A FLOUR by a TEXT (anew): how many items.", t -> {
            t.text(0, "");
            t.text(3, "y9 y8y7");
            t.is("flour(0, 0)", 0);
            t.is("flour(3, 3)", 3);
            t.is("count(0)", 2);
            t.text(0, "y1".repeat(40));
            t.is("flour(0, 0)", 40);
            t.text(0, "w9");
            t.is("flour(3, 0)", 1);
            t.tells("about(3, 0)", 3);
            t.tells("about(3, 3)", 9);
            t.is("count(0)", 2);
        });
        edges.test(11, "BAD; NOTHING; STATE: a FAULT. (STATE behind NOTHING.)", t -> {
            t.text(0, "y5");
            t.is("flour(0, 0)", 1);
            t.is("flour(3, 0)", 1);
            t.text(1, "y0");
            t.bad("flour(-1, 0)", "flour(4, 0)", "flour(0, -1)", "flour(0, 4)", "flour(LOW, 0)", "flour(0, HIGH)");
            t.finds("flour(0, 2)", Run.NOTHING);
            t.finds("flour(1, 3)", Run.NOTHING);
            t.refuses("flour(0, 1)", Run.STATE);
            t.refuses("flour(1, 1)", Run.STATE);
            t.tells("about(0, 0)", 5);
            t.finds("about(1, 0)", Run.NOTHING);
            t.bad("flour(4, 1)", "flour(-1, 2)");
        });
    }

    private static void doing(Edges edges) {
        edges.test(12, "A DOING by a TEXT (anew): how many STEPS.", t -> {
            t.text(0, "");
            t.text(3, "kxdkxdkxdk");
            t.is("doing(0, 0)", 0);
            t.is("doing(3, 3)", 10);
            t.is("count(1)", 2);
            t.text(3, "d");
            t.is("doing(3, 3)", 1);
            t.tells("step(3, 0)", 5, 0);
            t.finds("step(3, 1)", Run.BEYOND);
            t.is("count(1)", 2);
            t.is("doing(3, 0)", 0);
            t.finds("step(3, 0)", Run.BEYOND);
        });
        edges.test(12, "BAD; NOTHING; STATE: a FAULT. (STATE behind NOTHING.)", t -> {
            t.text(0, "k");
            t.is("doing(0, 0)", 1);
            t.is("doing(3, 0)", 1);
            t.text(1, "r1:0");
            t.bad("doing(-1, 0)", "doing(4, 0)", "doing(0, -1)", "doing(0, 4)", "doing(LOW, 0)", "doing(0, HIGH)");
            t.finds("doing(0, 2)", Run.NOTHING);
            t.finds("doing(1, 3)", Run.NOTHING);
            t.refuses("doing(0, 1)", Run.STATE);
            t.refuses("doing(1, 1)", Run.STATE);
            t.tells("step(0, 0)", 3, 0);
            t.finds("step(1, 0)", Run.NOTHING);
            t.bad("doing(4, 1)", "doing(-1, 2)");
        });
    }

    private static void about(Edges edges) {
        edges.test(13, "(3, if not told)", t -> {
            t.flour(0, "");
            int[] usual = {3, 40, 1, 4, 2};
            for (int what = 0; what < 5; what++) {
                t.tells("about(0, " + what + ")", usual[what]);
            }
        });
        edges.test(13, "of a letter told again the last one counts", t -> {
            t.flour(3, "y9s99e9w9t9 y1s10e0w0t0");
            int[] last = {1, 10, 0, 0, 0};
            for (int what = 0; what < 5; what++) {
                t.tells("about(3, " + what + ")", last[what]);
            }
            t.flour(3, "y1s10e0w0t0 y9s99e9w9t9");
            int[] greatest = {9, 99, 9, 9, 9};
            for (int what = 0; what < 5; what++) {
                t.tells("about(3, " + what + ")", greatest[what]);
            }
        });
        edges.test(13, "BAD; NOTHING.", t -> {
            t.flour(0, "y7t8");
            t.tells("about(0, 0)", 7);
            t.tells("about(0, 4)", 8);
            t.bad("about(0, -1)", "about(0, 5)", "about(-1, 0)", "about(4, 0)", "about(LOW, 0)", "about(0, HIGH)");
            t.finds("about(3, 0)", Run.NOTHING);
            t.finds("about(1, 4)", Run.NOTHING);
            t.bad("about(3, 5)", "about(3, -1)");
        });
    }

    private static void step(Edges edges) {
        edges.test(14, "STEP i of a DOING, as 1 REST, 2 OVEN, 3 KNEAD, 4 KNOCK, 5 DOOR; 100 times w and n by asked() (0).", t -> {
            t.doing(0, "r0:1o9:30kxd r0:30o9:1kxd");
            int[] kinds = {1, 2, 3, 4, 5, 1, 2, 3, 4, 5};
            int[] asked = {1, 930, 0, 0, 0, 30, 901, 0, 0, 0};
            for (int i = 0; i < 10; i++) {
                t.tells("step(0, " + i + ")", kinds[i], asked[i]);
            }
            t.finds("step(0, 10)", Run.BEYOND);
        });
        edges.test(14, "BAD; NOTHING; BEYOND.", t -> {
            t.doing(0, "");
            t.doing(3, "r5:5");
            t.tells("step(3, 0)", 1, 505);
            t.bad("step(-1, 0)", "step(4, 0)", "step(LOW, 0)", "step(HIGH, 0)");
            t.finds("step(1, 0)", Run.NOTHING);
            t.finds("step(0, 0)", Run.BEYOND);
            t.finds("step(3, 1)", Run.BEYOND);
            t.finds("step(3, -1)", Run.BEYOND);
            t.finds("step(3, LOW)", Run.BEYOND);
            t.finds("step(3, HIGH)", Run.BEYOND);
            t.bad("step(4, -1)", "step(-1, 10)");
            t.finds("step(1, -1)", Run.NOTHING);
            t.finds("step(2, 10)", Run.NOTHING);
        });
    }
}

/** The terms ahead of part 2, with ordinary inputs: what is refused, FINDINGS, ROWS, TEXTS, FLOURS, DOINGS, a LOAF. */
final class ReadTerms {
    private ReadTerms() {
    }

    static void addTo(Edges read) {
        atMost512(read);
        refusedInOrder(read);
        refusedChangesNothing(read);
        findings(read);
        fractionsAndSets(read);
        rowsAndTexts(read);
        flour(read);
        flourFaults(read);
        doing(read);
        doingFaults(read);
        loaf(read);
        handled(read);
    }

    private static void atMost512(Edges read) {
        read.test(1, "An object is used for at most 512 calls after it has been made", t -> {
            t.is("row(0, 1)", 1);
            for (int call = 2; call <= 510; call++) {
                t.take("lay(0, 0, " + call + ")");
            }
            t.tells("at(0, 0)", 510);
        });
    }

    // ---- what is refused

    private static void refusedInOrder(Edges read) {
        read.test(16, "Refused is, the first of these that fits, in this order: BAD -1 (a number that is none, or not"
                + " as told), FULL -2, STATE -4 (not now), SPENT -6 (more than told), FINDING -3 (finding() tells"
                + " which), unless a call says so otherwise. NONE -9.", t -> {
            t.refuses("go(100)", -1);
            t.refuses("go(99)", -4);
            t.refuses("begin(10)", -1);
            t.refuses("begin(9)", -4);
            t.loaf("", "");
            t.refuses("change()", -9);
            t.finds("begin(9)", Run.UNLIKE);
            t.refuses("begin(10)", -1);
            t.is("go(90)", 90);
            t.refuses("go(10)", -6);
            t.refuses("go(100)", -1);
            for (int s = 0; s < 12; s++) {
                t.is("slip(2, 100)", s);
            }
            t.refuses("slip(2, 100)", -2);
            t.refuses("slip(2, 1000)", -1);
        });
        read.test(11, "unless a call says so otherwise ... (STATE behind NOTHING.)", t -> {
            t.finds("flour(0, 0)", Run.NOTHING);
            t.text(0, "flour");
            t.refuses("flour(0, 0)", Run.STATE);
            t.refuses("flour(4, 0)", Run.BAD);
        });
    }

    /** Run looks at digest(), asked(), upper(), lower() and all FINDINGS behind each of them. */
    private static void refusedChangesNothing(Edges read) {
        read.test(46, "What is refused changes nothing but finding(), findings().", t -> {
            t.row(0, "2".repeat(24));
            t.row(1, "12345");
            t.loaf("y5s60", "r3:8kr2:4o9:9");
            t.is("go(9)", 9);
            t.is("keep(1)", 9);
            t.is("slip(0, 150)", 0);
            t.parts("odds(0, 0)", 1, 1, 1);
            t.tells("at(1, 3)", 4);
            t.finds("row(1, -1)", Run.SIZE);
            t.bad("row(1, 41)", "lay(6, 0, 7)", "tear(-1)", "copy(0, 0, 6, 0, 5)", "mean(6)", "text(3, 81)");
            t.finds("lay(1, 5, 7)", Run.BEYOND);
            t.finds("tear(2)", Run.NOTHING);
            t.finds("copy(0, 0, 1, 0, 6)", Run.BEYOND);
            t.finds("text(3, -1)", Run.SIZE);
            t.finds("put(3, 13, 107)", Run.BEYOND);
            t.finds("put(2, 0, 107)", Run.NOTHING);
            t.refuses("flour(0, 3)", Run.STATE);
            t.finds("doing(0, 2)", Run.NOTHING);
            t.finds("loaf(1, 0)", Run.NOTHING);
            t.refuses("go(91)", Run.SPENT);
            t.finds("on(0)", Run.NOTHING);
            t.bad("keep(3)", "cut(6)", "rests(10)", "slip(0, 1000)");
            t.finds("wide(1)", Run.UNLIKE);
            t.finds("why(1)", Run.SIZE);
            t.finds("odds(2, 0)", Run.NOTHING);
            t.finds("foretell(0, 1)", Run.NOTHING);
            t.is("asked()", 4);
        });
    }

    private static void findings(Edges read) {
        read.test(46, "FINDINGS: 1 NOTHING (a ROW, a TEXT, a FLOUR, a DOING, a kept LOAF that is missing)", t -> {
            t.finds("at(3, 0)", 1);
            t.finds("put(1, 0, 32)", 1);
            t.finds("about(2, 0)", 1);
            t.finds("step(0, 0)", 1);
            t.finds("on(1)", 1);
        });
        read.test(46, "2 BEYOND (a place that there is not)", t -> {
            t.is("row(3, 7)", 7);
            t.finds("at(3, 7)", 2);
            t.finds("copy(3, 4, 3, 0, 4)", 2);
            t.is("text(1, 9)", 9);
            t.finds("put(1, 9, 32)", 2);
            t.doing(0, "r3:8 x o9:10");
            t.finds("step(0, 3)", 2);
        });
        read.test(46, "3 UNLIKE (a FALL, a STEP of another KIND; a number that is none)", t -> {
            t.loaf("y9s20", "r2:3x");
            t.is("go(4)", 4);
            t.is("mark(5, 3)", 21 + 10 + 5 - 17);
            t.finds("mark(5, 4)", 3);
            t.finds("wide(1)", 3);
            t.row(0, "000000111111222222333333");
            t.finds("why(0)", 3);
        });
        read.test(47, "4 NOUGHT (shared among none), 5 SIZE (fewer than none; not as many as due)", t -> {
            t.is("row(2, 0)", 0);
            t.finds("mean(2)", 4);
            t.flour(0, "");
            t.finds("law(0)", 4);
            t.is("findings(4)", 2);
            t.finds("row(2, -3)", 5);
            t.finds("text(2, -3)", 5);
            t.finds("copy(2, 0, 2, 0, -3)", 5);
            t.doing(0, "");
            t.finds("why(2)", 5);
            t.is("findings(5)", 4);
        });
    }

    /** Baked by "r2:10" TIGHT is TORN, the others are STICKY; by YEAST 2 GAS is 1 for each TURN. */
    private static void fractionsAndSets(Edges read) {
        read.test(27, "Fractions are told by upper(), lower(), in lowest terms, the lower number above 0 (0 by 1).", t -> {
            t.flour(0, "");
            t.flour(1, "y2");
            t.flour(2, "y9s25w4");
            t.doing(0, "r2:10");
            t.doing(1, "r2:10");
            t.row(0, "2".repeat(24));
            t.parts("odds(0, 0)", 4, 1, 2);
            t.parts("odds(0, 1)", 4, 1, 2);
            t.parts("odds(0, 2)", 4, 0, 1);
        });
        read.test(33, "Sets are told by bits.", t -> {
            t.flour(0, "");
            t.flour(1, "y9s25w4");
            t.flour(2, "y2");
            t.flour(3, "y9s25w4");
            t.doing(0, "r2:10");
            t.tells("flours(0)", 1 + 4, 1);
            t.flour(3, "");
            t.tells("flours(0)", 1 + 4 + 8, 1 + 8);
        });
    }

    // ---- part 1

    private static void rowsAndTexts(Edges read) {
        read.test(1, "ROWS 0 .. 5 are rows of 0 to 40 ints, TEXTS 0 .. 3 rows of 0 to 80 bytes, or missing (at first).", t -> {
            for (int r = 0; r <= 5; r++) {
                t.finds("mean(" + r + ")", Run.NOTHING);
                t.is("row(" + r + ", " + 8 * r + ")", 8 * r);
            }
            for (int k = 0; k <= 3; k++) {
                t.finds("fault(" + k + ", true)", Run.NOTHING);
                t.is("text(" + k + ", " + 26 * k + ")", 26 * k);
            }
            t.is("lay(5, 39, 1234567890)", 1);
            t.tells("at(5, 39)", 1234567890);
            t.is("put(3, 77, 77)", 1032);
            t.is("put(3, 77, 77)", 1077);
        });
    }

    private static void flour(Edges read) {
        read.test(11, "A FLOUR (0 .. 3, missing at first) is a TEXT: blanks (32) ahead, between, behind as many as"
                + " wanted, none within items. Items (perhaps none): a letter and a number (one or two figures; of a"
                + " letter told again the last one counts)", t -> {
            for (int k = 0; k <= 3; k++) {
                t.finds("about(" + k + ", 0)", Run.NOTHING);
            }
            t.text(0, "  y5 s60e3  w7t1 s07 ");
            t.is("fault(0, false)", 20);
            t.text(0, "  y5 s60e3  w7t1 s77 ");
            t.is("fault(0, false)", Run.NONE);
            t.is("flour(1, 0)", 6);
            int[] due = {5, 77, 3, 7, 1};
            for (int what = 0; what < 5; what++) {
                t.tells("about(1, " + what + ")", due[what]);
            }
        });
        read.test(11, "y (121) YEAST 1 .. 9 (3, if not told), s (115) STRONG 10 .. 99 (40), e (101) SPROUT 0 .. 9 (1),"
                + " w (119) WET 0 .. 9 (4), t (116) SALT 0 .. 9 (2).", t -> {
            int[] usual = {3, 40, 1, 4, 2};
            String[] texts = {"y6", "s66", "e6", "w6", "t6"};
            for (int told = 0; told < 5; told++) {
                t.flour(2, texts[told]);
                for (int what = 0; what < 5; what++) {
                    t.tells("about(2, " + what + ")", what != told ? usual[what] : told == 1 ? 66 : 6);
                }
            }
        });
    }

    private static void flourFaults(Edges read) {
        read.test(10, "A FAULT is the first place at which it can't go on so (a number out of these: the place behind;"
                + " the TEXT's size, if its end comes too early).", t -> {
            String[] texts = {"y5 s60 q", "y5 s6 e3", "y12 t1", "y5,t1", "y5 s", "y5 s60 e", "r3:8"};
            int[] faults = {7, 5, 3, 2, 4, 8, 0};
            for (int i = 0; i < texts.length; i++) {
                t.text(0, texts[i]);
                t.is("fault(0, false)", faults[i]);
                t.refuses("flour(0, 0)", Run.STATE);
            }
        });
    }

    private static void doing(Edges read) {
        read.test(12, "A DOING (0 .. 3, missing at first) is a TEXT: blanks likewise; STEPS (none, or 10 at most), one"
                + " behind the other: r (114) w : (58) n REST, o (111) w : n OVEN, of WARMTH w (0 .. 9, one figure) for"
                + " n TURNS (1 .. 30, one or two figures; all together 90 at most); k (107) KNEAD, x (120) KNOCK, d"
                + " (100) DOOR.", t -> {
            for (int k = 0; k <= 3; k++) {
                t.finds("step(" + k + ", 0)", Run.NOTHING);
            }
            t.text(1, " k r3:8x  r4:04 o9:12 d o7:6 ");
            t.is("fault(1, true)", Run.NONE);
            t.is("doing(2, 1)", 7);
            int[] kinds = {3, 1, 4, 1, 2, 5, 2};
            int[] lasting = {0, 308, 0, 404, 912, 0, 706};
            for (int i = 0; i < 7; i++) {
                t.tells("step(2, " + i + ")", kinds[i], lasting[i]);
            }
        });
    }

    private static void doingFaults(Edges read) {
        read.test(10, "A FAULT likewise (an eleventh STEP: its letter; w no figure: its place; n out of these, or too"
                + " many together: the place behind).", t -> {
            String[] texts = {"k r3:8 y5", "r3:8 r:4", "r3:31 k", "o8:0 k", "r1:30o1:30r1:29k r2:2 x", "kkkkkkkkkk o5:5",
                "r3:8 o9:", "r3 :8", "y5"};
            int[] faults = {7, 6, 5, 4, 21, 11, 8, 2, 0};
            for (int i = 0; i < texts.length; i++) {
                t.text(0, texts[i]);
                t.is("fault(0, true)", faults[i]);
                t.refuses("doing(0, 0)", Run.STATE);
            }
        });
    }

    /** Without SALT, by YEAST 2, GAS is 2 for each TURN of HEAT 20. */
    private static void loaf(Edges read) {
        read.test(15, "A LOAF (none at first) goes by a FLOUR and a DOING as they were when it was begun, from TURN 0 on,"
                + " to TURN 99 at most.", t -> {
            t.refuses("height()", Run.STATE);
            t.loaf("y2s90t0", "r2:6");
            t.is("count(2)", 0);
            t.flour(0, "y1t9");
            t.doing(0, "k");
            t.is("go(6)", 6);
            t.cellIs(7, 12, 90 - 12, 20, 0, 0);
            t.is("go(93)", 99);
            t.refuses("go(1)", Run.SPENT);
        });
    }

    /** GAS is 7 for each TURN: behind the first STEP it is 14, KNEAD makes 7 of it, KNOCK 6 of that. */
    private static void handled(Edges read) {
        read.test(16, "KNEAD, KNOCK, DOOR are done as the first thing of the TURN that comes then (one behind the other):"
                + " behind go() to the end of a STEP, and behind loaf(), they are not done yet. Behind all STEPS it is on"
                + " the TABLE, of WARMTH 2. \"To its end\" is to 6 TURNS behind the last STEP (what comes then is done).",
                t -> {
            t.loaf("y9s50", "kr2:2kxd");
            t.cellIs(4, 0, 50, 20, 0, 0);
            t.is("go(2)", 2);
            t.cellIs(4, 14, 58, 20, 0, 0);
            t.is("go(1)", 3);
            t.cellIs(4, 6 + 3, 68, 10, 0, 0);
            t.cellIs(5, 6 + 3, 68, 20 - 20 / 4, 0, 0);
            t.heat(3, 20 - 40 / 4);
            t.is("go(1)", 4);
            t.heat(4, 15);
            t.heat(5, 15 - 10 / 4);
            t.loaf("y9s25w4", "");
            t.row(0, "2".repeat(24));
            t.tells("why(0)", 0, 0);
            t.doing(0, "k");
            t.tells("why(0)", 0, 0);
            t.doing(0, "r2:1");
            t.tells("why(0)", 0, 24);
        });
    }
}

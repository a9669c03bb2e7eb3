import java.util.Arrays;

/** Edges of promises 15 to 17 and 20 to 25: LOAVES, how far they go, what is kept, what one sees of them. */
final class EdgeLoaves {
    /** Its inner CELLS (MIDDLE ones, but for the bottom and the top) tear in TURN 26, the others in TURN 27. */
    private static final String INNER_FLOUR = "y5t5s99", INNER_DOING = "o2:24o4:1r9:1";

    private EdgeLoaves() {
    }

    static void addTo(Edges edges) {
        loaf(edges);
        asTheyWere(edges);
        go(edges);
        goAtItsEnds(edges);
        cell(edges);
        keep(edges);
        on(edges);
        height(edges);
        worth(edges);
        holes(edges);
        cut(edges);
        rests(edges);
        restsWithoutDoing(edges);
    }

    // ---- 15

    private static void loaf(Edges edges) {
        edges.test(15, "A LOAF is begun: all TURNS of its DOING's STEPS.", t -> {
            t.flour(0, "");
            t.flour(3, "");
            t.doing(0, "");
            t.doing(3, "r1:30o1:30r1:30");
            t.doing(1, "kxd");
            t.is("loaf(0, 0)", 0);
            t.is("loaf(3, 3)", 90);
            t.is("loaf(0, 1)", 0);
            t.doing(1, "d r1:1 k o1:2 x");
            t.is("loaf(0, 1)", 3);
        });
        edges.test(15, "BAD; NOTHING: either.", t -> {
            t.flour(1, "s33");
            t.doing(2, "");
            t.finds("loaf(0, 2)", Run.NOTHING);
            t.finds("loaf(1, 3)", Run.NOTHING);
            t.finds("loaf(0, 0)", Run.NOTHING);
            t.refuses("height()", Run.STATE);
            t.is("loaf(1, 2)", 0);
            t.is("go(5)", 5);
            t.bad("loaf(-1, 2)", "loaf(4, 2)", "loaf(1, -1)", "loaf(1, 4)", "loaf(LOW, 2)", "loaf(1, HIGH)");
            t.bad("loaf(4, 3)", "loaf(0, -1)");
            t.finds("loaf(3, 2)", Run.NOTHING);
            t.finds("loaf(1, 0)", Run.NOTHING);
            t.is("count(2)", 5);
            t.stretch(0, 28);
        });
        edges.test(15, "from TURN 0 on", t -> {
            t.gone("y9s20w0", "r2:9", 5);
            t.falls(24);
            t.is("loaf(0, 0)", 9);
            t.is("count(2)", 0);
            t.falls(0);
            t.cellIs(0, 0, 20, 20, 0, 0);
        });
    }

    private static void asTheyWere(Edges edges) {
        edges.test(15, "goes by a FLOUR and a DOING as they were when it was begun", t -> {
            t.loaf("s50", "kr2:3");
            t.flour(0, "s10t0");
            t.doing(0, "xr9:9");
            t.is("go(1)", 1);
            t.cellIs(0, 2, 59, 20);
        });
        edges.test(15, "as they were when it was begun", t -> {
            t.is("text(0, 0)", 0);
            t.is("flour(0, 0)", 0);
            t.doing(0, "r2:1");
            t.is("loaf(0, 0)", 1);
            t.doing(0, "");
            t.tells("wide(0)", 1, 15);
            t.is("loaf(0, 0)", 0);
            t.bad("wide(0)");
        });
    }

    // ---- 16

    private static void go(Edges edges) {
        edges.test(16, "n (0 .. 99) TURNS go by: its TURN.", t -> {
            t.loaf("", "");
            t.bad("go(-1)", "go(100)", "go(LOW)", "go(HIGH)");
            t.is("go(0)", 0);
            t.is("go(99)", 99);
            t.is("loaf(0, 0)", 0);
            t.is("go(1)", 1);
            t.is("go(98)", 99);
        });
        edges.test(16, "(n 0: nothing is done.)", t -> {
            t.loaf("y9s40", "kr2:1xkd");
            t.is("go(0)", 0);
            t.cellIs(0, 0, 40, 20);
            t.is("go(1)", 1);
            t.cellIs(0, 7, 49, 20);
            t.is("go(0)", 1);
            t.cellIs(0, 7, 49, 20);
        });
        edges.test(16, "BAD; STATE: there is no LOAF; SPENT: behind TURN 99.", t -> {
            t.bad("go(-1)", "go(100)");
            t.refuses("go(0)", Run.STATE);
            t.refuses("go(99)", Run.STATE);
            t.loaf("", "r3:9");
            t.is("go(1)", 1);
            t.refuses("go(99)", Run.SPENT);
            t.is("go(97)", 98);
            t.refuses("go(2)", Run.SPENT);
            t.is("go(1)", 99);
            t.refuses("go(1)", Run.SPENT);
            t.refuses("go(99)", Run.SPENT);
            t.bad("go(100)", "go(-1)");
            t.is("go(0)", 99);
            t.is("count(2)", 99);
        });
        edges.test(16, "to TURN 99 at most", t -> {
            t.gone("", "r3:9", 98);
            t.is("keep(0)", 98);
            t.is("go(1)", 99);
            t.is("keep(1)", 99);
            t.is("on(0)", 98);
            t.refuses("go(2)", Run.SPENT);
            t.is("go(1)", 99);
            t.is("on(1)", 99);
            t.refuses("go(1)", Run.SPENT);
        });
    }

    private static void goAtItsEnds(Edges edges) {
        edges.test(16, "behind go() to the end of a STEP, and behind loaf(), they are not done yet", t -> {
            t.loaf("y9s40", "kr2:2kr2:1");
            t.stretch(0, 40);
            t.is("go(2)", 2);
            t.cellIs(0, 14, 48);
            t.is("go(1)", 3);
            t.cellIs(0, 14, 57);
        });
        edges.test(16, "done as the first thing of the TURN that comes then (one behind the other)", t -> {
            t.gone("y9s40", "r2:2kxr2:1", 3);
            t.gas(0, 14 / 2 - 1 + 7);
            t.gone("y9s40", "r2:2xkr2:1", 3);
            t.gas(0, (14 - 3) / 2 + 7);
            t.gone("y1t9s40", "kkkkkkkkkk", 1);
            t.stretch(0, 98);
        });
        edges.test(16, "Behind all STEPS it is on the TABLE, of WARMTH 2.", t -> {
            t.gone("y1t9", "o9:1", 1);
            t.heat(0, 55);
            t.is("go(1)", 2);
            t.heat(0, 38);
            t.is("go(1)", 3);
            t.heat(0, 29);
            t.is("go(96)", 99);
            t.heat(0, 21);
            t.gone("y1t9", "", 1);
            t.heat(0, 20);
        });
    }

    // ---- 17

    private static void cell(Edges edges) {
        edges.test(17, "At first a CELL has GAS 0, STRETCH as its FLOUR is STRONG, HEAT 20, SET 0, and is not TORN.", t -> {
            t.loaf("s10", "kxdr9:9");
            for (int c = 0; c < 24; c++) {
                t.cellIs(c, 0, 10, 20, 0, 0);
            }
            t.loaf("s99", "");
            t.cellIs(0, 0, 99, 20, 0, 0);
            t.cellIs(23, 0, 99, 20, 0, 0);
        });
        edges.test(17, "all told by asked(): 1. BAD; STATE.", t -> {
            t.bad("cell(-1, 0)", "cell(24, 0)", "cell(0, -1)", "cell(0, 5)");
            t.refuses("cell(0, 0)", Run.STATE);
            t.refuses("cell(23, 4)", Run.STATE);
            t.loaf("s55", "");
            t.tells("cell(23, 1)", 55);
            t.tells("cell(0, 4)", 0);
            t.bad("cell(-1, 0)", "cell(24, 0)", "cell(0, -1)", "cell(0, 5)", "cell(LOW, 0)", "cell(0, HIGH)");
        });
    }

    // ---- 20, 21

    private static void keep(Edges edges) {
        edges.test(20, "The LOAF is kept in a place (0 .. 2), as it is: its TURN.", t -> {
            t.loaf("y9s20", "r2:3x");
            t.is("keep(0)", 0);
            t.is("go(3)", 3);
            t.is("keep(2)", 3);
            t.is("count(5)", 2);
            t.is("go(96)", 99);
            t.is("keep(1)", 99);
            t.is("count(5)", 3);
            t.is("keep(1)", 99);
            t.is("count(5)", 3);
            t.is("count(2)", 99);
        });
        edges.test(20, "BAD; STATE.", t -> {
            t.bad("keep(-1)", "keep(3)");
            t.refuses("keep(0)", Run.STATE);
            t.refuses("keep(2)", Run.STATE);
            t.loaf("", "");
            t.bad("keep(-1)", "keep(3)", "keep(LOW)", "keep(HIGH)");
            t.is("count(5)", 0);
        });
    }

    private static void on(Edges edges) {
        edges.test(21, "The LOAF is as it was kept in a place: its TURN.", t -> {
            t.loaf("y9s20", "r2:3x");
            t.is("keep(2)", 0);
            t.is("go(3)", 3);
            t.is("keep(0)", 3);
            t.is("go(1)", 4);
            t.is("keep(1)", 4);
            t.loaf("y1t9", "r9:9");
            t.is("go(9)", 9);
            t.is("on(0)", 3);
            t.falls(0);
            t.cellIs(0, 21, 17);
            t.is("go(1)", 4);
            t.falls(24);
            t.is("on(0)", 3);
            t.falls(0);
            t.is("on(1)", 4);
            t.falls(24);
            t.is("mark(0, 3)", 4);
            t.is("on(2)", 0);
            t.cellIs(0, 0, 20, 20);
            t.is("count(5)", 3);
        });
        edges.test(21, "The LOAF is as it was kept", t -> {
            t.loaf("y9s20", "r2:3kr9:3x");
            t.is("go(2)", 2);
            t.is("keep(0)", 2);
            t.is("go(5)", 7);
            t.is("on(0)", 2);
            t.is("go(1)", 3);
            t.cellIs(0, 21, 17, 20);
            t.is("go(1)", 4);
            t.cellIs(0, 10 + 18, 26, 55);
        });
        edges.test(21, "as it was kept in a place", t -> {
            t.loaf("y9s20", "r2:3x");
            t.is("go(4)", 4);
            t.is("keep(1)", 4);
            t.loaf(INNER_FLOUR, INNER_DOING);
            t.is("go(26)", 26);
            t.fallIs(0, 4, 3, 52, 25);
            t.is("on(1)", 4);
            t.falls(24);
            t.fallIs(0, 3, 0, 21, 3);
            t.is("mark(0, 3)", 4);
            t.is("mark(2, 3)", 14);
            t.fallIs(23, 3, 23);
        });
        edges.test(21, "BAD; NOTHING.", t -> {
            t.bad("on(-1)", "on(3)", "on(LOW)", "on(HIGH)");
            t.finds("on(0)", Run.NOTHING);
            t.gone("", "r3:3", 2);
            t.is("keep(1)", 2);
            t.is("go(1)", 3);
            t.finds("on(0)", Run.NOTHING);
            t.finds("on(2)", Run.NOTHING);
            t.bad("on(-1)", "on(3)");
            t.is("count(2)", 3);
            t.is("on(1)", 2);
        });
    }

    // ---- 22

    private static void height(Edges edges) {
        edges.test(22, "of each layer 10 and the GAS of both its CELLS together by 20 (cut)", t -> {
            t.loaf("y1t0s99", "");
            t.tells("height()", 120, 120);
            t.is("go(9)", 9);
            t.gas(0, 9);
            t.tells("height()", 120, 120);
            t.is("go(1)", 10);
            t.tells("height()", 132, 132);
            t.is("go(9)", 19);
            t.tells("height()", 132, 132);
            t.is("go(1)", 20);
            t.tells("height()", 144, 144);
        });
        edges.test(22, "less 3 for each TORN one", t -> {
            t.gone("y9s20w0", "r2:9", 5);
            t.is("height()", 120 - 72);
            t.gone(INNER_FLOUR, INNER_DOING, 26);
            t.falls(10);
            t.is("height()", 10 + 5 + 10 * (10 + 2 - 3) + 10 + 7);
        });
        edges.test(22, "HEIGHT of the LOAF; WORTH by asked(). STATE.", t -> {
            t.refuses("height()", Run.STATE);
            t.loaf("", "");
            t.tells("height()", 120, 120);
        });
    }

    private static void worth(Edges edges) {
        edges.test(22, "DONE are CELLS of SET 50 or more that are not TORN.", t -> {
            t.gone("y1t9e6", "o9:30o9:30", 52);
            t.set(0, 49);
            t.tells("height()", 120, 120);
            t.is("go(1)", 53);
            t.set(0, 50);
            t.tells("height()", 120, 120 + 14);
            t.gone(INNER_FLOUR, INNER_DOING + "o9:30", 56);
            t.set(3, 99);
            t.torn(3, 1);
            t.tells("height()", 122, 122 + 14 - 50);
        });
        edges.test(22, "HEIGHT and DONE together less 5 for each TORN one; 0 at least.", t -> {
            t.gone(INNER_FLOUR, INNER_DOING, 26);
            t.tells("height()", 122, 122 - 50);
            t.is("go(1)", 27);
            t.tells("height()", 48, 0);
        });
    }

    // ---- 23, 24

    private static void holes(Edges edges) {
        edges.test(23, "How many HOLES; how many CELLS the greatest one has by asked() (0). STATE.", t -> {
            t.refuses("holes()", Run.STATE);
            t.loaf(INNER_FLOUR, INNER_DOING);
            t.tells("holes()", 0, 0);
            t.is("go(26)", 26);
            t.tells("holes()", 1, 10);
            t.is("go(1)", 27);
            t.tells("holes()", 1, 24);
            t.is("loaf(0, 0)", 26);
            t.tells("holes()", 0, 0);
        });
        edges.test(23, "HOLES are TORN CELLS that hang together by NEIGHBOURS.", t -> {
            t.gone("y1s12e7w1t4", "o7:10", 11);
            tornAre(t, 9, 11, 13, 15, 17, 19, 21, 23);
            t.tells("holes()", 1, 8);
            t.gone("y8s49e2w6t2", "o7:13r2:4", 15);
            tornAre(t, 3, 11, 13, 15, 17, 19, 21, 23);
            t.tells("holes()", 2, 7);
            t.gone("y5s97e2w5t3", "o9:13o6:12", 31);
            tornAre(t, 5, 11, 13, 19);
            t.tells("holes()", 3, 2);
            t.gone("y6s86e4w6t2", "o2:12o9:20r1:15", 35);
            tornAre(t, 3, 21);
            t.tells("holes()", 2, 1);
        });
        edges.test(23, "hang together by NEIGHBOURS", t -> {
            t.gone("y9e6s99w9", "r2:2o9:30o9:22", 55);
            tornAre(t, 0, 1, 2, 4, 6, 8, 10, 12, 14, 16, 18, 20, 22, 23);
            t.tells("holes()", 1, 14);
        });
        edges.test(23, "NEIGHBOURS are below, above, beside it.", t -> {
            t.gone("y9s20w0", "r2:9", 5);
            t.tells("holes()", 1, 24);
        });
    }

    private static void tornAre(Run t, int... cells) {
        for (int c = 0; c < 24; c++) {
            t.torn(c, Arrays.binarySearch(cells, c) >= 0 ? 1 : 0);
        }
    }

    private static void cut(Edges edges) {
        edges.test(24, "The CUT of the LOAF comes to a ROW (anew): how many are TORN.", t -> {
            t.gone(INNER_FLOUR, INNER_DOING, 26);
            t.is("cut(0)", 10);
            t.rowIs(0, 2, 2, 2, 1, 2, 1, 2, 1, 2, 1, 2, 1, 2, 1, 2, 1, 2, 1, 2, 1, 2, 1, 2, 2);
            t.finds("at(0, 24)", Run.BEYOND);
            t.is("row(5, 40)", 40);
            t.is("cut(5)", 10);
            t.finds("at(5, 24)", Run.BEYOND);
            t.is("row(4, 3)", 3);
            t.is("go(1)", 27);
            t.is("cut(4)", 24);
            t.tells("at(4, 23)", 1);
            t.is("count(7)", 3);
        });
        edges.test(24, "of each CELL 1 TORN, 2 STICKY (not TORN, SET below 50), 0 else", t -> {
            t.gone("y1t9e6", "o9:30o9:30", 52);
            t.is("cut(0)", 0);
            t.tells("at(0, 0)", 2);
            t.is("go(1)", 53);
            t.is("cut(0)", 0);
            t.tells("at(0, 0)", 0);
            t.tells("at(0, 3)", 2);
            t.gone(INNER_FLOUR, INNER_DOING + "o9:30", 56);
            t.is("cut(0)", 10);
            t.tells("at(0, 2)", 0);
            t.tells("at(0, 3)", 1);
        });
        edges.test(24, "BAD; STATE.", t -> {
            t.is("row(0, 1)", 1);
            t.bad("cut(-1)", "cut(6)");
            t.refuses("cut(0)", Run.STATE);
            t.refuses("cut(5)", Run.STATE);
            t.loaf("", "");
            t.bad("cut(-1)", "cut(6)", "cut(LOW)", "cut(HIGH)");
            t.is("cut(0)", 0);
            t.is("cut(5)", 0);
        });
    }

    // ---- 25

    /** GAS is 1 for each TURN, STRETCH 1 less: the CELLS tear in the first TURN n of 3 n above 2 STRONG and WET. */
    private static void rests(Edges edges) {
        edges.test(25, "how many TURNS (60 at most) of REST ... 60: none does", t -> {
            t.loaf("y2t5s89w1", "");
            t.is("rests(2)", 59);
            t.loaf("y2t5s89w2", "");
            t.is("rests(2)", 60);
            t.is("go(1)", 1);
            t.is("rests(2)", 59);
            t.loaf("y2t5s99w9", "");
            t.is("rests(2)", 60);
            t.loaf("y1t9", "");
            t.is("rests(0)", 60);
            t.is("rests(9)", 60);
            t.is("go(99)", 99);
            t.is("rests(9)", 60);
        });
        edges.test(25, "it may still go from here on", t -> {
            t.gone("y9t9s99w9", "", 99);
            t.cellIs(0, 0, 0, 20, 0, 0);
            t.is("rests(2)", 60);
            t.is("rests(5)", 9);
            t.is("go(0)", 99);
        });
        edges.test(25, "till the TURN in which a CELL tears (that not counted)", t -> {
            t.loaf("y9s16w3", "");
            t.is("rests(2)", 3);
            t.is("go(2)", 2);
            t.is("rests(2)", 1);
            t.is("go(1)", 3);
            t.is("rests(2)", 0);
            t.is("go(1)", 4);
            t.falls(24);
            t.is("rests(2)", 60);
        });
        edges.test(25, "(It stays.) BAD; STATE.", t -> {
            t.bad("rests(-1)", "rests(10)", "rests(LOW)", "rests(HIGH)");
            t.refuses("rests(0)", Run.STATE);
            t.refuses("rests(9)", Run.STATE);
            t.loaf("y9s16w3", "r2:2kr2:2");
            t.is("go(1)", 1);
            long before = t.take("digest()");
            t.is("rests(9)", 2);
            t.is("rests(0)", 60);
            t.is("digest()", before);
            t.bad("rests(-1)", "rests(10)");
            t.is("go(2)", 3);
            t.cellIs(0, 14, 23);
        });
    }

    private static void restsWithoutDoing(Edges edges) {
        edges.test(25, "(It stays.)", t -> {
            t.doing(1, "r0:9");
            t.loaf("y9s25w4", "r2:9");
            t.tells("flours(1)", 1, 1);
            t.is("rests(2)", 6);
            t.tells("flours(0)", 0, 1);
            t.is("rests(2)", 6);
            t.tells("flours(1)", 1, 1);
        });
        edges.test(25, "(nothing of the DOING comes any more, no KNEAD, KNOCK, DOOR that was to come either)", t -> {
            for (String doing : new String[] {"r2:2", "r2:2x", "r2:2k", "r2:2d", "r2:30", "r2:2r9:9"}) {
                t.gone("y9s15w9", doing, 2);
                t.is("rests(2)", 2);
            }
            t.loaf("y9s60", "o2:30");
            t.is("rests(2)", 13);
            t.is("go(6)", 6);
            t.is("rests(2)", 0);
        });
    }
}

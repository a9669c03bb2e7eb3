/** The terms of parts 2 and 3, with ordinary inputs: CELLS, a TURN and its order, KINDS, HEIGHT, CUTS, CHANGES, LAWS. */
final class ReadTurns {
    /** Its inner CELLS have GAS 52 and tear in the 26th TURN; the OUTER ones have HEAT 60 then and GAS 51. */
    private static final String INNER_FLOUR = "y5t5s99", INNER_DOING = "o2:24o4:1r9:1";

    private ReadTurns() {
    }

    static void addTo(Edges read) {
        cells(read);
        heat(read);
        gasSetStretch(read);
        order(read);
        overfull(read);
        undone(read);
        hands(read);
        kinds(read);
        height(read);
        cut(read);
        baked(read);
        changes(read);
        law(read);
    }

    // ---- CELLS

    private static void cells(Edges read) {
        read.test(17, "CELLS are 0 .. 23: a layer y (0 at the bottom .. 11) is it by 2, cut, its place (0 SIDE, 1 MIDDLE)"
                + " it modulo 2. OUTER ones are at the SIDE, or of layer 0 or 11. NEIGHBOURS are below, above, beside it."
                + " At first a CELL has GAS 0, STRETCH as its FLOUR is STRONG, HEAT 20, SET 0, and is not TORN.", t -> {
            t.loaf("y1t9s65", "o9:1r0:1");
            for (int c = 0; c < 24; c++) {
                t.cellIs(c, 0, 65, 20, 0, 0);
            }
            t.bad("cell(24, 2)");
            t.is("go(2)", 2);
            for (int y = 0; y < 12; y++) {
                boolean end = y == 0 || y == 11;
                boolean nextToEnd = y == 1 || y == 10;
                t.heat(2 * y, 55 - 27);
                t.heat(2 * y + 1, end ? 55 - 27 : nextToEnd ? 20 + 70 / 4 : 20 + 35 / 4);
            }
            t.gone("y9t0s12w0", "r2:9", 2);
            for (int c = 0; c < 24; c++) {
                t.tells("fall(" + c + ", 1)", c);
                t.is("mark(" + c + ", 6)", c / 2);
            }
        });
    }

    // ---- a TURN

    private static void heat(Edges read) {
        read.test(16, "(a) HEAT, all at once: of an OUTER CELL by half of what 10 w is above it (below it: less; cut"
                + " toward 0); of another one by a quarter of what all its NEIGHBOURS are together above it (each less"
                + " it; cut toward 0).", t -> {
            t.gone("y1t9", "r5:3r1:1", 1);
            t.heat(0, 35);
            t.heat(3, 20);
            t.heat(5, 20);
            t.is("go(1)", 2);
            t.heat(0, 42);
            t.heat(3, 20 + 30 / 4);
            t.heat(5, 20 + 15 / 4);
            t.is("go(1)", 3);
            t.heat(0, 46);
            t.heat(3, 27 + (15 - 4 + 15) / 4);
            t.heat(5, 23 + (4 + 0 + 19) / 4);
            t.is("go(1)", 4);
            t.heat(0, 46 - 36 / 2);
            t.heat(3, 33 + (13 - 5 + 13) / 4);
        });
    }

    /** OUTER CELLS have HEAT 50, 65, 72, 76 by o8; SET is 3 by 65, 4 by 72, 5 by 76, each less SPROUT. */
    private static void gasSetStretch(Edges read) {
        read.test(16, "(b) GAS of each that is not TORN, of HEAT 55 at most: by YEAST times a tenth of HEAT (cut) times"
                + " (10 less SALT), all that by 20, cut.", t -> {
            t.gone("y4t3s99", "r3:2o8:2", 1);
            t.cellIs(0, 4 * 2 * 7 / 20, 98, 25);
            t.is("go(1)", 2);
            t.cellIs(0, 2 + 2, 97, 27);
            t.is("go(1)", 3);
            t.cellIs(0, 4 + 4 * 5 * 7 / 20, 96, 53);
            t.is("go(1)", 4);
            t.cellIs(0, 4 + 7, 95, 66);
        });
        read.test(16, "(c) SET of each of HEAT 60 at least: by HEAT less 50, by 5 (cut), less SPROUT, 0 at least; 99 at"
                + " most. (d) STRETCH of each of HEAT 20 at least and SET below 50: 1 less, 2 without SALT; 0 at least.", t -> {
            t.gone("y1t9e2", "o8:4r0:9", 4);
            t.cellIs(0, 0, 36, 76, 0 + 1 + 2 + 3, 0);
            t.is("go(3)", 7);
            t.cellIs(0, 0, 40 - 5, 10, 6, 0);
            t.gone("y1t0e5", "o8:4", 4);
            t.cellIs(0, 2, 40 - 8, 76, 0, 0);
        });
    }

    private static void order(Edges read) {
        read.test(16, "A TURN of WARMTH w, in this order: (a) HEAT, all at once ... (b) GAS ... (c) SET of each ..."
                + " (d) STRETCH of each ... (e) CELLS 0, 1, ..: ... (f) Out of the OVEN", t -> {
            t.gone("y9t0s99", "r4:1", 1);
            t.cellIs(0, 9 * 3 * 10 / 20, 97, 30, 0, 0);
            t.gone("y1t9e6s99", "o9:30o9:23", 53);
            t.cellIs(0, 0, 47, 89, 50, 0);
            t.gone("y9s10w0", "r2:3", 3);
            t.fallIs(0, 1, 0, 21, 2);
            t.is("mark(0, 1)", 7);
            t.gone("y9s26w0", "o2:5", 6);
            t.fallIs(0, 0, 0, 42, 5);
        });
    }

    /** GAS is 2 for each TURN of the usual FLOUR, of HEAT 20: 44 is above 2 times 18 and 4, 42 not above 2 times 19 and 4. */
    private static void overfull(Edges read) {
        read.test(16, "(e) CELLS 0, 1, ..: one that is not TORN tears, if its GAS is above twice its STRETCH, SET and WET"
                + " together (STRETCH twice, the others once): half of its GAS (cut) goes to that above it, if there is one"
                + " that is not TORN; it has none then.", t -> {
            t.gone("", "r2:30", 21);
            t.cellIs(8, 42, 19, 20, 0, 0);
            t.falls(0);
            t.is("go(1)", 22);
            t.cellIs(8, 0, 18, 20, 0, 1);
            t.falls(24);
            int gas = 44;
            for (int y = 0; y < 12; y++) {
                t.fallIs(2 * y, 0, 2 * y, gas, 21);
                t.fallIs(2 * y + 1, 0, 2 * y + 1, gas, 21);
                gas = 44 + gas / 2;
            }
        });
    }

    private static void undone(Edges read) {
        read.test(16, "(f) Out of the OVEN (REST, TABLE), if a TURN in the OVEN came ahead: CELLS 0, 1, .. that are not"
                + " TORN, of HEAT below 60, SET below 50, GAS above 40, tear likewise.", t -> {
            t.gone(INNER_FLOUR, INNER_DOING, 25);
            t.cellIs(6, 51, 74, 30, 0, 0);
            t.cellIs(7, 50, 74, 20, 0, 0);
            t.falls(0);
            t.is("go(1)", 26);
            t.falls(10);
            t.cellIs(6, 51, 73, 60, 2 - 1, 0);
            int gas = 52;
            for (int y = 1; y <= 10; y++) {
                t.fallIs(y - 1, 4, 2 * y + 1, gas, 25);
                gas = 52 + gas / 2;
            }
            t.gas(23, 51 + (gas - 52));
        });
    }

    // ---- KNEAD, KNOCK, DOOR

    private static void hands(Edges read) {
        read.test(16, "KNEAD: STRETCH of each 10 more, 99 at most; GAS of each half (cut). KNOCK: CELLS 0, 1, .. that are"
                + " not TORN tear, if GAS is above STRETCH (GAS then as by (e)); of the others GAS is a quarter (cut) less."
                + " DOOR: HEAT of OUTER ones 20 less, 0 at least.", t -> {
            t.gone("y9s60", "r2:5kr2:1", 6);
            t.cellIs(9, 35 / 2 + 7, 60 - 5 + 10 - 1);
            t.gone("y9s60", "r2:5xr2:1", 6);
            t.cellIs(9, 35 - 8 + 7, 60 - 6);
            t.gone("y9s37", "r2:5xr2:1", 6);
            t.falls(24);
            t.fallIs(0, 3, 0, 35, 5);
            t.fallIs(1, 3, 1, 35, 5);
            t.fallIs(2, 3, 2, 35 + 17, 5);
            t.is("mark(2, 3)", 52 - 32);
            t.cellIs(9, 0, 31, 20, 0, 1);
            t.gone("y1t9", "r4:2dr4:1", 2);
            t.heat(10, 35);
            t.is("go(1)", 3);
            t.heat(10, 15 + 25 / 2);
            t.heat(11, 20 + 10 / 4 - 7 / 4);
        });
    }

    private static void kinds(Edges read) {
        read.test(18, "FALLS 0, 1, .. are CELLS that tore, as they did. KINDS: 0 FALL, 1 OVERRIPE (a FALL: by (e), its"
                + " STRETCH below 10), 2 YOUNG (a FALL: by (e), in the OVEN, its STRETCH 10 or more), 3 KNOCKED (a FALL), 4"
                + " UNDONE (a FALL: by (f)), 5 SPROUTED (an UNDONE: SPROUT 5 or more), 6 UNSALTED (an OVERRIPE, without"
                + " SALT).", t -> {
            String[] flours = {"", "s20", "", "y9s37", INNER_FLOUR, INNER_FLOUR + "e7", "s20t0"};
            String[] doings = {"r2:30", "r2:30", "o2:30", "r2:5x", INNER_DOING, INNER_DOING, "r2:30"};
            int[] turns = {22, 12, 22, 6, 26, 26, 7};
            for (int kind = 0; kind < 7; kind++) {
                t.gone(flours[kind], doings[kind], turns[kind]);
                t.tells("fall(0, 0)", kind);
                t.tells("fall(0, 3)", turns[kind] - 1);
            }
        });
    }

    // ---- what one sees

    private static void height(Edges read) {
        read.test(22, "HEIGHT: of each layer 10 and the GAS of both its CELLS together by 20 (cut), less 3 for each TORN"
                + " one; all together. DONE are CELLS of SET 50 or more that are not TORN. WORTH: HEIGHT and DONE together"
                + " less 5 for each TORN one; 0 at least.", t -> {
            t.gone("", "r2:12", 12);
            t.tells("height()", 12 * (10 + 48 / 20), 144);
            t.gone(INNER_FLOUR, INNER_DOING, 26);
            t.gas(23, 102);
            int layers = 10 + 102 / 20 + 10 * (10 + 51 / 20 - 3) + 10 + (51 + 102) / 20;
            t.tells("height()", layers, layers - 5 * 10);
            t.gone("y1t9e0", "o9:9", 9);
            t.tells("height()", 120, 120 + 14);
            t.gone("", "r2:30", 22);
            t.tells("height()", 12 * (10 - 6), 0);
        });
        read.test(23, "HOLES are TORN CELLS that hang together by NEIGHBOURS.", t -> {
            t.gone(INNER_FLOUR, INNER_DOING, 25);
            t.tells("holes()", 0, 0);
            t.is("go(1)", 26);
            t.tells("holes()", 1, 10);
            t.is("go(1)", 27);
            t.tells("holes()", 1, 24);
        });
    }

    private static void cut(Edges read) {
        read.test(24, "A CUT is a ROW of 24 numbers: of each CELL 1 TORN, 2 STICKY (not TORN, SET below 50), 0 else.", t -> {
            t.gone(INNER_FLOUR, INNER_DOING, 26);
            t.is("cut(2)", 10);
            t.rowIs(2, 2, 2, 2, 1, 2, 1, 2, 1, 2, 1, 2, 1, 2, 1, 2, 1, 2, 1, 2, 1, 2, 1, 2, 2);
            t.finds("at(2, 24)", Run.BEYOND);
            t.gone("y1t9e0", "o9:9", 9);
            t.is("cut(2)", 0);
            t.rowIs(2, 0, 0, 0, 2, 0, 2, 0, 2, 0, 2, 0, 2, 0, 2, 0, 2, 0, 2, 0, 2, 0, 2, 0, 0);
        });
        read.test(26, "UNLIKE of two are CELLS that are told otherwise.", t -> {
            t.flour(0, "");
            t.doing(0, "r2:4");
            t.row(0, "222211112222000022222222");
            t.tells("why(0)", 0, 8);
        });
    }

    private static void baked(Edges read) {
        read.test(26, "\"Baked\" is a LOAF begun by a FLOUR and a DOING and gone on to its end; the LOAF stays as it is.", t -> {
            t.gone("", "r2:15", 9);
            long before = t.take("digest()");
            t.tells("flours(0)", 1, 1);
            t.is("digest()", before);
            t.doing(0, "r2:16");
            t.tells("flours(0)", 0, 1);
            t.is("count(2)", 9);
            t.cellIs(0, 18, 31, 20, 0, 0);
        });
    }

    /**
     * Baked in 7 TURNS of HEAT 20 .. 29 the one FLOUR has GAS 49 and does not tear, in 8 it does; KNEADED it has GAS 63
     * in 9 and does not. OUTER CELLS of the other one are DONE by 9 TURNS of o9, but not behind a DOOR.
     */
    private static void changes(Edges read) {
        read.test(30, "CHANGES of a STEP of the LOAF's DOING, as 10 times the STEP (0, 1, ..) and: 0 w one less, 1 w one more,"
                + " 2 n one less, 3 n one more (REST, OVEN; as long as the DOING could be told so), 4 left out (KNEAD, KNOCK,"
                + " DOOR). They come one behind the other by these numbers.", t -> {
            t.loaf("y9s29w5", "r4:1");
            t.tells("change()", 0, 168);
            t.loaf("y9s29w5", "r1:1");
            t.tells("change()", 1, 168);
            t.loaf("y9s29w5", "xr2:2");
            t.tells("change()", 12, 168);
            t.loaf("y9s29w5", "kr2:2");
            t.tells("change()", 13, 12 * (10 + 126 / 20));
            t.loaf("y1t9e0", "ko9:8");
            t.tells("change()", 13, 120 + 14);
            t.loaf("y1t9e0", "kdo9:9");
            t.tells("change()", 14, 120 + 14);
        });
    }

    private static void law(Edges read) {
        read.test(39, "SLIPS 0, 1, .. (12 at most) tell a DOING (0 .. 3) and a HEIGHT (0 .. 999). A LAW is YEAST 1 .. 9,"
                + " STRONG 10, 20, .. 90 (by YEAST, then STRONG), all else as a FLOUR: OFF by how far HEIGHTS baked so are"
                + " from those of all SLIPS together.", t -> {
            t.flour(0, "");
            t.doing(0, "");
            t.doing(1, "r2:4");
            t.is("slip(0, 130)", 0);
            t.is("slip(1, 145)", 1);
            t.is("slip(0, 134)", 2);
            t.tells("law(0)", 320, 2 + 1 + 2);
        });
    }
}

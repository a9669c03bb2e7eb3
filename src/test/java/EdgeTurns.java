/** Edges within a TURN, in KNEAD, KNOCK, DOOR and in the KINDS of FALLS (promises 16 to 19). */
final class EdgeTurns {
    private EdgeTurns() {
    }

    static void addTo(Edges edges) {
        heat(edges);
        gas(edges);
        set(edges);
        stretch(edges);
        overfull(edges);
        halfGoesUp(edges);
        undone(edges);
        undoneAhead(edges);
        knead(edges);
        knock(edges);
        door(edges);
        fall(edges);
        kinds(edges);
        sproutedUnsalted(edges);
        mark(edges);
        markRefused(edges);
    }

    // ---- (a) to (d)

    private static void heat(Edges edges) {
        edges.test(16, "by half of what 10 w is above it (below it: less; cut toward 0)", t -> {
            t.loaf("y1t9", "r0:9");
            for (int due : new int[] {10, 5, 3, 2, 1, 1}) {
                t.take("go(1)");
                t.heat(0, due);
            }
            t.loaf("y1t9", "o9:9");
            for (int due : new int[] {55, 72, 81, 85, 87, 88, 89, 89}) {
                t.take("go(1)");
                t.heat(0, due);
            }
        });
        edges.test(16, "OUTER ones are at the SIDE, or of layer 0 or 11.", t -> {
            t.gone("y1t9", "o9:1", 1);
            for (int c = 0; c < 24; c++) {
                t.heat(c, c % 2 == 0 || c == 1 || c == 23 ? 55 : 20);
            }
        });
        edges.test(16, "by a quarter of what all its NEIGHBOURS are together above it (each less it; cut toward 0)", t -> {
            t.gone("y1t9", "o9:2", 2);
            t.heat(3, 20 + 70 / 4);
            t.heat(5, 20 + 35 / 4);
            t.heat(19, 20 + 35 / 4);
            t.heat(21, 20 + 70 / 4);
            t.gone("y1t9", "r0:2", 2);
            t.heat(3, 20 - 20 / 4);
            t.heat(5, 20 - 10 / 4);
            t.heat(21, 20 - 20 / 4);
        });
    }

    private static void gas(Edges edges) {
        edges.test(16, "GAS of each that is not TORN, of HEAT 55 at most", t -> {
            t.gone("y9t0s99", "r2:2o9:1", 2);
            t.gas(0, 18);
            t.is("go(1)", 3);
            t.heat(0, 55);
            t.gas(0, 18 + 22);
            t.gone("y9t0s99", "r3:1r2:1o9:1", 2);
            t.gas(0, 18);
            t.is("go(1)", 3);
            t.heat(0, 56);
            t.gas(0, 18);
            t.heat(3, 22);
            t.gas(3, 27);
        });
        edges.test(16, "GAS of each that is not TORN", t -> {
            t.gone("y9s20w0", "r2:9", 5);
            t.falls(24);
            t.is("go(2)", 7);
            t.gas(0, 0);
            t.gas(23, 0);
        });
        edges.test(16, "a tenth of HEAT (cut)", t -> {
            t.gone("y9t0s99", "r3:9", 4);
            t.heat(0, 29);
            t.gas(0, 36);
            t.gone("y9t0s99", "r4:1", 1);
            t.heat(0, 30);
            t.gas(0, 13);
            t.gone("y9t0s99", "r0:2", 1);
            t.heat(0, 10);
            t.gas(0, 4);
            t.is("go(1)", 2);
            t.heat(0, 5);
            t.gas(0, 4);
        });
        edges.test(16, "times (10 less SALT), all that by 20, cut", t -> {
            t.gone("y1t0", "r2:1", 1);
            t.gas(0, 1);
            t.gone("y1t1", "r2:1", 1);
            t.gas(0, 0);
            t.gone("y9t1", "r2:1", 1);
            t.gas(0, 8);
            t.gone("y9t9", "r2:1", 1);
            t.gas(0, 0);
        });
    }

    private static void set(Edges edges) {
        edges.test(16, "SET of each of HEAT 60 at least", t -> {
            t.gone("y1t9e0", "r3:3o9:1", 4);
            t.heat(0, 59);
            t.set(0, 0);
            t.gone("y1t9e0", "r4:1o9:1", 2);
            t.heat(0, 60);
            t.set(0, 2);
        });
        edges.test(16, "by HEAT less 50, by 5 (cut), less SPROUT, 0 at least", t -> {
            t.gone("y1t9e0", "o9:2", 2);
            t.heat(0, 72);
            t.set(0, 4);
            t.gone("y1t9e1", "r4:1o9:1", 2);
            t.set(0, 1);
            t.gone("y1t9e2", "r4:1o9:1", 2);
            t.set(0, 0);
            t.gone("y1t9e3", "r4:1o9:1", 2);
            t.set(0, 0);
            t.gone("y1t9e9", "o9:2", 2);
            t.set(0, 0);
        });
        edges.test(16, "99 at most. (d)", t -> {
            t.gone("y1t9e0", "o9:16", 15);
            t.set(0, 94);
            t.is("go(1)", 16);
            t.set(0, 99);
            t.is("go(1)", 17);
            t.set(0, 99);
        });
    }

    private static void stretch(Edges edges) {
        edges.test(16, "STRETCH of each of HEAT 20 at least", t -> {
            t.gone("y1t9", "r1:1r2:9", 4);
            t.heat(0, 19);
            t.stretch(0, 40);
            t.is("go(3)", 7);
            t.heat(0, 19);
            t.stretch(0, 40);
            t.gone("y1t9", "r2:1", 1);
            t.heat(0, 20);
            t.stretch(0, 39);
        });
        edges.test(16, "and SET below 50", t -> {
            t.gone("y1t9e6s99", "o9:30o9:30", 52);
            t.set(0, 49);
            t.stretch(0, 47);
            t.is("go(1)", 53);
            t.set(0, 50);
            t.stretch(0, 47);
            t.is("go(1)", 54);
            t.set(0, 51);
            t.stretch(0, 47);
        });
        edges.test(16, "1 less, 2 without SALT; 0 at least", t -> {
            t.gone("y1t1s11", "r2:30", 1);
            t.stretch(0, 10);
            t.is("go(9)", 10);
            t.stretch(0, 1);
            t.is("go(1)", 11);
            t.stretch(0, 0);
            t.is("go(1)", 12);
            t.stretch(0, 0);
            t.gone("y1t0s11", "r2:30", 1);
            t.stretch(0, 9);
            t.is("go(4)", 5);
            t.stretch(0, 1);
            t.is("go(1)", 6);
            t.stretch(0, 0);
            t.is("go(1)", 7);
            t.stretch(0, 0);
        });
    }

    // ---- (e) and (f)

    /** GAS is 7 for each TURN. */
    private static void overfull(Edges edges) {
        edges.test(16, "if its GAS is above twice its STRETCH, SET and WET together (STRETCH twice, the others once)", t -> {
            t.gone("y9s16w4", "r2:9", 4);
            t.cellIs(0, 28, 12, 20, 0, 0);
            t.falls(0);
            t.gone("y9s16w3", "r2:9", 4);
            t.falls(24);
            t.gone("y9s15w6", "r2:9", 4);
            t.falls(0);
            t.gone("y9s15w5", "r2:9", 4);
            t.falls(24);
        });
        edges.test(16, "SET and WET together", t -> {
            t.gone("y4t5s10w0e0", "o9:2", 5);
            t.cellIs(0, 14, 5, 27, 4, 0);
            t.is("go(1)", 6);
            t.cellIs(0, 0, 4, 24, 4, 1);
        });
    }

    private static void halfGoesUp(Edges edges) {
        edges.test(16, "half of its GAS (cut) goes to that above it", t -> {
            t.gone("y9s20w0", "r2:9", 5);
            t.fallIs(0, 0, 0, 35);
            t.fallIs(1, 0, 1, 35);
            t.fallIs(2, 0, 2, 35 + 17);
            t.fallIs(3, 0, 3, 35 + 17);
            t.fallIs(4, 0, 4, 35 + 26);
            t.fallIs(5, 0, 5, 35 + 26);
        });
        edges.test(16, "it has none then", t -> {
            t.gone("y9s20w0", "r2:9", 5);
            t.gas(0, 0);
            t.gas(22, 0);
            t.gas(23, 0);
            t.falls(24);
        });
        edges.test(16, "if there is one that is not TORN", t -> {
            t.gone("y5t5s99", "o2:24o4:1r9:1", 26);
            t.falls(10);
            t.gas(21, 0);
            t.gas(23, 51 + 51);
            t.is("go(1)", 27);
            t.falls(24);
            t.fallIs(10, 4, 0, 56);
            t.fallIs(11, 4, 1, 56);
            t.fallIs(12, 4, 2, 56 + 28);
            t.gas(3, 0);
        });
    }

    private static void undone(Edges edges) {
        edges.test(16, "of HEAT below 60", t -> {
            t.gone("y5t5s99", "o2:24o4:1r9:1", 26);
            t.heat(0, 60);
            t.falls(10);
            t.fallIs(0, 4, 3, 52);
            t.fallIs(9, 4, 21);
            t.gone("y5t5s99", "o2:22o3:3r9:1", 26);
            t.falls(24);
            t.heat(0, 59);
            t.fallIs(0, 4, 0, 50);
        });
        edges.test(16, "SET below 50, GAS above 40, tear likewise", t -> {
            t.gone("y9e6s99w9", "r2:2o9:30o9:22", 54);
            t.cellIs(0, 32, 45, 89, 49, 0);
            t.is("go(1)", 55);
            t.torn(0, 1);
            t.fallIs(0, 5, 0, 50);
            t.is("mark(0, 4)", 1);
            t.gone("y9e6s99w9", "r2:2o9:30o9:23", 55);
            t.cellIs(0, 32, 45, 89, 50, 0);
            t.is("go(1)", 56);
            t.cellIs(0, 50, 45, 55, 50, 0);
        });
        edges.test(16, "GAS above 40", t -> {
            t.gone("y2t5s99", "r2:30r2:8o2:1", 40);
            t.gas(0, 40);
            t.falls(0);
            t.is("go(1)", 41);
            t.falls(24);
            t.fallIs(0, 4, 0, 41, 40);
        });
    }

    private static void undoneAhead(Edges edges) {
        edges.test(16, "Out of the OVEN (REST, TABLE), if a TURN in the OVEN came ahead", t -> {
            t.gone("y9s60", "r2:8o2:1r2:1", 8);
            t.gas(0, 56);
            t.falls(0);
            t.is("go(1)", 9);
            t.gas(0, 63);
            t.falls(0);
            t.is("go(1)", 10);
            t.fallIs(0, 4, 0, 70, 9);
            t.gone("y9s60", "o2:1r2:8", 5);
            t.gas(0, 35);
            t.falls(0);
            t.is("go(1)", 6);
            t.fallIs(0, 4, 0, 42, 5);
            t.gone("y9s60", "o2:6", 6);
            t.gas(0, 42);
            t.falls(0);
            t.is("go(1)", 7);
            t.fallIs(0, 4, 0, 49, 6);
            t.gone("y9s60", "", 13);
            t.falls(0);
        });
    }

    // ---- KNEAD, KNOCK, DOOR

    private static void knead(Edges edges) {
        edges.test(16, "KNEAD: STRETCH of each 10 more, 99 at most; GAS of each half (cut).", t -> {
            t.gone("y1t9s88", "k", 1);
            t.stretch(0, 98 - 1);
            t.gone("y1t9s89", "k", 1);
            t.stretch(0, 99 - 1);
            t.stretch(23, 99 - 1);
            t.gone("y1t9s90", "k", 1);
            t.stretch(0, 99 - 1);
            t.gone("y1t9s99", "k", 1);
            t.stretch(0, 99 - 1);
            t.gone("y9", "r2:1k", 1);
            t.gas(0, 7);
            t.is("go(1)", 2);
            t.gas(0, 3 + 7);
            t.gas(23, 3 + 7);
        });
        edges.test(16, "STRETCH of each 10 more", t -> {
            t.gone("y9s20", "r2:3xr2:1k", 4);
            t.falls(24);
            t.stretch(0, 16);
            t.is("go(1)", 5);
            t.stretch(0, 16 + 10 - 1);
        });
    }

    private static void knock(Edges edges) {
        edges.test(16, "CELLS 0, 1, .. that are not TORN tear, if GAS is above STRETCH", t -> {
            t.gone("y9s16w9", "r2:2x", 2);
            t.cellIs(0, 14, 14);
            t.is("go(1)", 3);
            t.falls(0);
            t.gas(0, 14 - 3 + 7);
            t.gone("y9s15w9", "r2:2x", 2);
            t.cellIs(0, 14, 13);
            t.is("go(1)", 3);
            t.falls(24);
            t.fallIs(0, 3, 0, 14, 2);
            t.fallIs(2, 3, 2, 14 + 7, 2);
        });
        edges.test(16, "of the others GAS is a quarter (cut) less", t -> {
            t.gone("y1t0", "r2:3xr2:30", 4);
            t.gas(0, 3 + 1);
            t.gone("y1t0", "r2:4xr2:30", 5);
            t.gas(0, 4 - 1 + 1);
            t.gone("y1t0", "r2:7xr2:30", 8);
            t.gas(0, 7 - 1 + 1);
            t.gone("y1t0", "r2:8xr2:30", 9);
            t.gas(0, 8 - 2 + 1);
        });
    }

    private static void door(Edges edges) {
        edges.test(16, "DOOR: HEAT of OUTER ones 20 less, 0 at least.", t -> {
            t.gone("y1t9", "dr0:1", 1);
            t.heat(0, 0);
            t.gone("y1t9", "r1:1dr0:1", 2);
            t.heat(0, 0);
            t.gone("y1t9", "r3:1dr0:1", 2);
            t.heat(0, 5 - 2);
            t.gone("y1t9", "o9:1dr9:1", 2);
            for (int c = 0; c < 24; c += 2) {
                t.heat(c, 35 + 27);
            }
            t.heat(1, 35 + 27);
            t.heat(23, 35 + 27);
            t.heat(3, 20 + 30 / 4);
            t.heat(11, 20 + 15 / 4);
            t.heat(21, 20 + 30 / 4);
        });
        edges.test(16, "HEAT of OUTER ones 20 less", t -> {
            t.gone("y9s37", "r2:5xdr2:1", 6);
            t.falls(24);
            t.heat(4, 0 + 20 / 2);
            t.heat(5, 20 - 20 / 4);
        });
    }

    // ---- FALLS

    private static void fall(Edges edges) {
        edges.test(18, "3 the TURN (that which went by then, or was to come)", t -> {
            t.gone("y9t0s10w0", "o9:1", 1);
            t.fallIs(0, 6, 0, 22, 0);
            t.gone("y9s20", "r2:3x", 4);
            t.fallIs(0, 3, 0, 21, 3);
            t.gone("y9t0s14w9", "r0:30r0:30r0:30", 98);
            t.cellIs(0, 36, 14, 19, 0, 0);
            long ahead = t.take("count(3)");
            t.is("go(1)", 99);
            t.fallIs((int) ahead, 0, 0, 40, 98);
        });
        edges.test(18, "all told by asked(): 1. BAD (also without a LOAF).", t -> {
            t.bad("fall(0, 0)", "fall(0, 4)", "fall(-1, 0)");
            t.loaf("y9s20", "r2:3x");
            t.bad("fall(0, 0)");
            t.is("go(4)", 4);
            t.fallIs(0, 3, 0, 21, 3);
            t.tells("fall(23, 1)", 23);
            t.tells("fall(23, 3)", 3);
            t.bad("fall(24, 0)", "fall(-1, 0)", "fall(0, -1)", "fall(0, 4)", "fall(HIGH, 0)", "fall(LOW, 0)");
            t.is("loaf(0, 0)", 3);
            t.bad("fall(0, 0)");
        });
        edges.test(18, "FALLS 0, 1, .. are CELLS that tore, as they did.", t -> {
            t.gone("y5t5s99", "o2:24o4:1r9:1", 27);
            for (int k = 0; k < 10; k++) {
                t.fallIs(k, 4, 2 * k + 3);
            }
            t.fallIs(10, 4, 0);
            t.fallIs(11, 4, 1);
            for (int k = 12; k < 24; k++) {
                t.fallIs(k, 4, k == 23 ? 23 : 2 * (k - 11));
            }
        });
    }

    /** GAS is 7 for each TURN: one of STRONG 13 tears with STRETCH 10, one of STRONG 12 with STRETCH 9. */
    private static void kinds(Edges edges) {
        edges.test(18, "1 OVERRIPE (a FALL: by (e), its STRETCH below 10)", t -> {
            t.gone("y9s12w0", "r2:9", 3);
            t.fallIs(0, 1, 0, 21, 2);
            t.stretch(0, 9);
            t.gone("y9s13w0", "r2:9", 3);
            t.fallIs(0, 0, 0, 21, 2);
            t.stretch(0, 10);
            t.gone("y9s12w0", "o2:9", 3);
            t.fallIs(0, 1, 0, 21, 2);
        });
        edges.test(18, "2 YOUNG (a FALL: by (e), in the OVEN, its STRETCH 10 or more)", t -> {
            t.gone("y9s13w0", "o2:9", 3);
            t.fallIs(0, 2, 0, 21, 2);
            t.gone("y9s13w0", "o2:2r2:1", 3);
            t.fallIs(0, 0, 0, 21, 2);
            t.gone("y9s13w0", "o2:2", 3);
            t.fallIs(0, 0, 0, 21, 2);
            t.gone("y9s13w0", "r2:2o2:1", 3);
            t.fallIs(0, 2, 0, 21, 2);
        });
        edges.test(18, "3 KNOCKED (a FALL)", t -> {
            t.gone("y9s12w9", "r2:2x", 3);
            t.fallIs(0, 3, 0, 14, 2);
            t.gone("y9s12w9t0", "o2:2xo2:1", 3);
            t.fallIs(0, 3, 0, 18, 2);
        });
        edges.test(18, "4 UNDONE (a FALL: by (f))", t -> {
            t.gone("y9s60", "o2:6", 7);
            t.fallIs(0, 4, 0, 49, 6);
            t.is("count(4)", 24);
            t.gone("y9s26w0", "o2:5", 6);
            t.fallIs(0, 0, 0, 42, 5);
            t.is("count(4)", 0);
            t.gone("y9s26w2", "o2:5", 6);
            t.fallIs(0, 4, 0, 42, 5);
            t.is("count(4)", 24);
        });
    }

    private static void sproutedUnsalted(Edges edges) {
        edges.test(18, "5 SPROUTED (an UNDONE: SPROUT 5 or more)", t -> {
            t.gone("y9s60e4", "o2:6", 7);
            t.fallIs(0, 4);
            t.is("count(4)", 24);
            t.gone("y9s60e5", "o2:6", 7);
            t.fallIs(0, 5);
            t.is("count(4)", 24);
            t.gone("y9s60e9t0", "o2:6", 7);
            t.fallIs(0, 5);
            t.gone("y9s13w0e9", "r2:9", 3);
            t.fallIs(0, 0);
            t.is("count(4)", 0);
        });
        edges.test(18, "6 UNSALTED (an OVERRIPE, without SALT)", t -> {
            t.gone("y9t0s12w0", "r2:9", 2);
            t.fallIs(0, 6, 0, 18, 1);
            t.gone("y9t0s12w0", "o2:9", 2);
            t.fallIs(0, 6, 0, 18, 1);
            t.gone("y9t1s12w0", "r2:9", 3);
            t.fallIs(0, 1, 0, 24, 2);
            t.gone("y9t0s16w0", "r2:9", 3);
            t.stretch(0, 10);
            t.fallIs(0, 0, 0, 27, 2);
            t.gone("y9t0s16w0", "o2:9", 3);
            t.fallIs(0, 2, 0, 27, 2);
        });
    }

    // ---- marks

    private static void mark(Edges edges) {
        edges.test(19, "an OVERRIPE one (UNSALTED, too) its STRETCH ... an UNSALTED one its layer", t -> {
            t.gone("y9s12w0", "r2:9k", 3);
            t.is("mark(0, 1)", 9);
            t.is("go(7)", 10);
            t.stretch(0, 12);
            t.is("mark(0, 1)", 9);
            t.finds("mark(0, 6)", Run.UNLIKE);
            t.gone("y9t0s12w0", "r2:9", 2);
            t.is("mark(0, 1)", 8);
            t.is("mark(0, 6)", 0);
            t.is("mark(1, 6)", 0);
            t.is("mark(2, 6)", 1);
            t.is("mark(23, 1)", 8);
            t.is("mark(23, 6)", 11);
        });
        edges.test(19, "a YOUNG one its HEAT ... (As it tore.)", t -> {
            t.gone("y9s13w0", "o2:3o9:9", 3);
            t.is("mark(0, 2)", 20);
            t.is("mark(23, 2)", 20);
            t.is("go(5)", 8);
            t.is("mark(0, 2)", 20);
            t.gone("y9t1s12w0", "o6:9", 2);
            t.fallIs(0, 2, 0, 16 + 20, 1);
            t.is("mark(0, 2)", 50);
            t.fallIs(3, 2, 3, 8 + 12 + 18, 1);
            t.is("mark(3, 2)", 30);
        });
        edges.test(19, "a KNOCKED one by how much its GAS was above its STRETCH", t -> {
            t.gone("y9s15w9", "r2:2x", 3);
            t.is("mark(0, 3)", 1);
            t.is("mark(2, 3)", 8);
            t.is("go(5)", 8);
            t.is("mark(0, 3)", 1);
        });
        edges.test(19, "an UNDONE one (SPROUTED, too) how much SET lacked to 50, a SPROUTED one SPROUT", t -> {
            t.gone("y9s60e4", "o2:6", 7);
            t.is("mark(0, 4)", 50);
            t.finds("mark(0, 5)", Run.UNLIKE);
            t.gone("y9s60e5", "o2:6", 7);
            t.is("mark(0, 4)", 50);
            t.is("mark(0, 5)", 5);
            t.gone("y9e6s99w9", "r2:2o9:30o9:22", 55);
            t.is("mark(0, 4)", 1);
            t.is("mark(0, 5)", 6);
        });
    }

    private static void markRefused(Edges edges) {
        edges.test(19, "What a FALL that IS of a KIND tells", t -> {
            String[] flours = {"y9s12w0", "y9s13w0", "y9s15w9", "y9s60e4", "y9s60e5", "y9t0s12w0", "y9s13w0"};
            String[] doings = {"r2:9", "o2:9", "r2:2x", "o2:6", "o2:6", "r2:9", "r2:9"};
            int[] are = {1 << 1, 1 << 2, 1 << 3, 1 << 4, 1 << 4 | 1 << 5, 1 << 1 | 1 << 6, 0};
            for (int i = 0; i < flours.length; i++) {
                t.gone(flours[i], doings[i], 7);
                for (int kind = 1; kind <= 6; kind++) {
                    if ((are[i] >> kind & 1) == 0) {
                        t.finds("mark(0, " + kind + ")", Run.UNLIKE);
                    }
                }
                t.anew();
            }
        });
        edges.test(19, "BAD: also KIND 0; UNLIKE.", t -> {
            t.bad("mark(0, 1)", "mark(0, 0)");
            t.loaf("y9s13w0", "r2:9");
            t.bad("mark(0, 1)");
            t.is("go(3)", 3);
            t.fallIs(0, 0);
            t.bad("mark(0, 0)", "mark(0, -1)", "mark(0, 7)", "mark(-1, 1)", "mark(24, 1)", "mark(LOW, 1)",
                    "mark(HIGH, 1)", "mark(0, LOW)", "mark(0, HIGH)");
            t.finds("mark(0, 1)", Run.UNLIKE);
            t.finds("mark(23, 6)", Run.UNLIKE);
            t.bad("mark(24, 0)", "mark(24, 6)");
        });
    }
}

/** Promises 15 to 25, each with its whole text and ordinary inputs: LOAVES. */
final class ReadLoaves {
    /** Its inner CELLS have GAS 52 and tear in the 26th TURN; the OUTER ones have HEAT 60 then and GAS 51. */
    private static final String INNER_FLOUR = "y5t5s99", INNER_DOING = "o2:24o4:1r9:1";

    private ReadLoaves() {
    }

    static void addTo(Edges read) {
        loafAndGo(read);
        cell(read);
        fall(read);
        mark(read);
        keepAndOn(read);
        heightAndHoles(read);
        cut(read);
        rests(read);
    }

    private static void loafAndGo(Edges read) {
        read.test(15, "A LOAF is begun: all TURNS of its DOING's STEPS. BAD; NOTHING: either.", t -> {
            t.flour(1, "y4 s30 t2");
            t.doing(2, "k r3:8 x r3:4 o9:10");
            t.is("loaf(1, 2)", 8 + 4 + 10);
            t.stretch(13, 30);
            t.is("go(5)", 5);
            t.is("loaf(1, 2)", 22);
            t.is("count(2)", 0);
            t.stretch(13, 30);
            t.bad("loaf(4, 2)", "loaf(1, 4)");
            t.finds("loaf(0, 2)", Run.NOTHING);
            t.finds("loaf(1, 0)", Run.NOTHING);
        });
        read.test(16, "n (0 .. 99) TURNS go by: its TURN. (n 0: nothing is done.) BAD; STATE: there is no LOAF; SPENT: behind"
                + " TURN 99.", t -> {
            t.refuses("go(3)", Run.STATE);
            t.loaf("y4 s30 t2", "k r2:8 x r2:4");
            t.is("go(0)", 0);
            t.stretch(13, 30);
            t.is("go(3)", 3);
            t.cellIs(13, 9, 37, 20, 0, 0);
            t.is("go(5)", 8);
            t.cellIs(13, 24, 32, 20, 0, 0);
            t.is("go(0)", 8);
            t.gas(13, 24);
            t.is("go(1)", 9);
            t.cellIs(13, 24 - 6 + 3, 31, 20, 0, 0);
            t.bad("go(-4)", "go(200)");
            t.refuses("go(95)", Run.SPENT);
            t.is("go(50)", 59);
        });
    }

    private static void cell(Edges read) {
        read.test(17, "Of a CELL: 0 GAS, 1 STRETCH, 2 HEAT, 3 SET, 4 whether TORN (1, 0), all told by asked(): 1. BAD; STATE.", t -> {
            t.refuses("cell(5, 2)", Run.STATE);
            t.gone("y4 s30 t2", "k r3:8 x r3:4 o9:10", 2);
            t.cellIs(2, 6, 38, 27, 0, 0);
            t.cellIs(3, 6, 38, 22, 0, 0);
            t.cellIs(5, 6, 38, 21, 0, 0);
            t.gone("y1t9e0", "o9:3", 3);
            t.cellIs(2, 0, 37, 81, 4 + 6, 0);
            t.gone("", "r2:22", 22);
            t.cellIs(5, 0, 18, 20, 0, 1);
            t.bad("cell(24, 2)", "cell(5, 5)");
        });
    }

    private static void fall(Edges read) {
        read.test(18, "Of a FALL: 0 its KIND, 1 its CELL, 2 its GAS as it tore, 3 the TURN (that which went by then, or was to"
                + " come), all told by asked(): 1. BAD (also without a LOAF).", t -> {
            t.bad("fall(0, 1)");
            t.gone(INNER_FLOUR, INNER_DOING, 26);
            t.fallIs(0, 4, 3, 52, 25);
            t.fallIs(1, 4, 5, 52 + 26, 25);
            t.fallIs(2, 4, 7, 52 + 39, 25);
            t.bad("fall(10, 1)", "fall(2, 4)");
            t.gone("y9s37", "r2:5xr2:1", 6);
            t.fallIs(0, 3, 0, 35, 5);
            t.fallIs(3, 3, 3, 35 + 17, 5);
        });
    }

    private static void mark(Edges read) {
        read.test(19, "What a FALL that IS of a KIND tells: an OVERRIPE one (UNSALTED, too) its STRETCH, a YOUNG one its HEAT, a"
                + " KNOCKED one by how much its GAS was above its STRETCH, an UNDONE one (SPROUTED, too) how much SET lacked"
                + " to 50, a SPROUTED one SPROUT, an UNSALTED one its layer. BAD: also KIND 0; UNLIKE. (As it tore.)", t -> {
            t.gone("s20", "r2:30", 12);
            t.is("mark(9, 1)", 8);
            t.finds("mark(9, 6)", Run.UNLIKE);
            t.gone("s20t0", "r2:30", 7);
            t.is("mark(9, 1)", 6);
            t.is("mark(9, 6)", 4);
            t.gone("", "o2:30", 22);
            t.is("mark(9, 2)", 20);
            t.finds("mark(9, 1)", Run.UNLIKE);
            t.gone("y9s37", "r2:5x", 6);
            t.is("mark(1, 3)", 35 - 32);
            t.is("mark(3, 3)", 35 + 17 - 32);
            t.anew();
            t.gone(INNER_FLOUR + "e7", INNER_DOING, 26);
            t.is("mark(9, 4)", 50);
            t.is("mark(9, 5)", 7);
            t.finds("mark(9, 3)", Run.UNLIKE);
            t.is("go(9)", 35);
            t.is("mark(9, 4)", 50);
            t.bad("mark(9, 0)", "mark(9, 7)", "mark(24, 4)");
        });
    }

    private static void keepAndOn(Edges read) {
        read.test(20, "The LOAF is kept in a place (0 .. 2), as it is: its TURN. BAD; STATE.", t -> {
            t.refuses("keep(1)", Run.STATE);
            t.loaf("y9s37", "r2:5xr2:1");
            t.is("go(5)", 5);
            t.is("keep(1)", 5);
            t.is("go(1)", 6);
            t.is("keep(2)", 6);
            t.is("count(5)", 2);
            t.bad("keep(3)", "keep(-1)");
            t.is("on(1)", 5);
            t.falls(0);
            t.gas(0, 35);
            t.is("on(2)", 6);
            t.falls(24);
            t.fallIs(0, 3, 0, 35, 5);
        });
        read.test(21, "The LOAF is as it was kept in a place: its TURN. BAD; NOTHING.", t -> {
            t.loaf("y4s30", "kr2:8");
            t.is("go(4)", 4);
            t.is("keep(0)", 4);
            t.loaf("y9s99", "r9:9");
            t.is("go(9)", 9);
            t.is("on(0)", 4);
            t.cellIs(17, 12, 36, 20, 0, 0);
            t.is("go(2)", 6);
            t.cellIs(17, 18, 34, 20, 0, 0);
            t.is("on(0)", 4);
            t.cellIs(17, 12, 36, 20, 0, 0);
            t.finds("on(1)", Run.NOTHING);
            t.bad("on(3)");
            t.is("count(2)", 4);
        });
    }

    private static void heightAndHoles(Edges read) {
        read.test(22, "HEIGHT of the LOAF; WORTH by asked(). STATE.", t -> {
            t.refuses("height()", Run.STATE);
            t.loaf("", "r2:9");
            t.tells("height()", 120, 120);
            t.is("go(15)", 15);
            t.tells("height()", 12 * (10 + 60 / 20), 156);
            t.gone(INNER_FLOUR, INNER_DOING, 26);
            t.tells("height()", 15 + 10 * 9 + 17, 122 - 50);
        });
        read.test(23, "How many HOLES; how many CELLS the greatest one has by asked() (0). STATE.", t -> {
            t.refuses("holes()", Run.STATE);
            t.gone("", "r2:30", 21);
            t.tells("holes()", 0, 0);
            t.is("go(1)", 22);
            t.tells("holes()", 1, 24);
            t.gone(INNER_FLOUR, INNER_DOING, 26);
            t.tells("holes()", 1, 10);
        });
    }

    private static void cut(Edges read) {
        read.test(24, "The CUT of the LOAF comes to a ROW (anew): how many are TORN. BAD; STATE.", t -> {
            t.row(3, "77777");
            t.refuses("cut(3)", Run.STATE);
            t.gone(INNER_FLOUR, INNER_DOING, 26);
            t.is("cut(3)", 10);
            for (int c = 0; c < 24; c++) {
                t.tells("at(3, " + c + ")", c % 2 == 1 && c > 1 && c < 23 ? 1 : 2);
            }
            t.finds("at(3, 24)", Run.BEYOND);
            t.is("cut(5)", 10);
            t.is("count(7)", 2);
            t.bad("cut(6)");
        });
    }

    /** The usual FLOUR tears in the 22nd TURN of HEAT 20; TIGHT, of 7 GAS for each TURN, in the 7th. */
    private static void rests(Edges read) {
        read.test(25, "The finger: how many TURNS (60 at most) of REST of WARMTH w (nothing of the DOING comes any more, no"
                + " KNEAD, KNOCK, DOOR that was to come either) it may still go from here on, till the TURN in which a CELL"
                + " tears (that not counted); 60: none does. (It stays.) BAD; STATE.", t -> {
            t.refuses("rests(2)", Run.STATE);
            t.loaf("", "r2:9kr0:9");
            t.is("rests(2)", 21);
            t.is("go(9)", 9);
            t.is("rests(2)", 12);
            t.is("count(2)", 9);
            t.gas(0, 18);
            t.loaf("y9s25w4", "x");
            t.is("rests(2)", 6);
            t.loaf("y1t9", "");
            t.is("rests(2)", 60);
            t.bad("rests(10)", "rests(-1)");
        });
    }
}

/** Edges of promises 1 to 9: a new object, ROWS, TEXTS. */
final class EdgeRows {
    private EdgeRows() {
    }

    static void addTo(Edges edges) {
        newObject(edges);
        row(edges);
        lay(edges);
        at(edges);
        tear(edges);
        copy(edges);
        copyRefused(edges);
        mean(edges);
        text(edges);
        put(edges);
    }

    private static void newObject(Edges edges) {
        edges.test(1, "No ROWS, TEXTS, FLOURS, DOINGS, LOAF, SLIPS.", t -> {
            for (int what = 0; what <= 8; what++) {
                t.is("count(" + what + ")", 0);
            }
            for (int r = 0; r <= 5; r++) {
                t.finds("at(" + r + ", 0)", Run.NOTHING);
            }
            for (int k = 0; k <= 3; k++) {
                t.finds("fault(" + k + ", false)", Run.NOTHING);
                t.finds("about(" + k + ", 0)", Run.NOTHING);
                t.finds("step(" + k + ", 0)", Run.NOTHING);
            }
            t.refuses("height()", Run.STATE);
            t.bad("told(0, 0)", "fall(0, 0)");
        });
        edges.test(1, "a kept LOAF that is missing", t -> {
            t.finds("on(0)", Run.NOTHING);
            t.finds("on(1)", Run.NOTHING);
            t.finds("on(2)", Run.NOTHING);
        });
        edges.test(1, "(0 before any)", t -> {
            t.is("finding()", 0);
            for (int f = 1; f <= 5; f++) {
                t.is("findings(" + f + ")", 0);
            }
            t.is("asked()", 0);
            t.is("upper()", 0);
            t.is("lower()", 1);
        });
    }

    private static void row(Edges edges) {
        edges.test(2, "A ROW is there with n ints 0: n.", t -> {
            t.is("row(0, 0)", 0);
            t.is("count(7)", 1);
            t.finds("at(0, 0)", Run.BEYOND);
            t.is("row(5, 40)", 40);
            t.is("count(7)", 2);
            for (int i = 0; i < 40; i++) {
                t.tells("at(5, " + i + ")", 0);
            }
            t.finds("at(5, 40)", Run.BEYOND);
        });
        edges.test(2, "A ROW is there with n ints 0", t -> {
            t.row(3, "777");
            t.is("row(3, 3)", 3);
            t.rowIs(3, 0, 0, 0);
            t.row(3, "777");
            t.is("row(3, 1)", 1);
            t.finds("at(3, 1)", Run.BEYOND);
            t.is("row(3, 3)", 3);
            t.rowIs(3, 0, 0, 0);
            t.is("count(7)", 1);
        });
        edges.test(2, "ROWS 0 .. 5", t -> {
            t.is("row(0, 1)", 1);
            t.is("row(5, 1)", 1);
            t.bad("row(-1, 1)", "row(6, 1)", "row(LOW, 1)", "row(HIGH, 1)");
            t.is("count(7)", 2);
        });
        edges.test(2, "BAD: also n above 40", t -> {
            t.is("row(1, 40)", 40);
            t.is("lay(1, 39, 7)", 1);
            t.bad("row(1, 41)", "row(1, HIGH)", "row(2, 41)");
            t.tells("at(1, 39)", 7);
            t.finds("at(2, 0)", Run.NOTHING);
        });
        edges.test(2, "SIZE: below 0", t -> {
            t.is("row(1, 0)", 0);
            t.is("row(2, 1)", 1);
            t.finds("row(1, -1)", Run.SIZE);
            t.finds("row(2, -1)", Run.SIZE);
            t.finds("row(2, LOW)", Run.SIZE);
            t.finds("row(3, -1)", Run.SIZE);
            t.tells("at(2, 0)", 0);
            t.is("count(7)", 2);
        });
        edges.test(2, "Refused is, the first of these that fits", t -> t.bad("row(6, -1)", "row(-1, LOW)", "row(6, 41)"));
    }

    private static void lay(Edges edges) {
        edges.test(3, "Place i of a ROW is v: what it was, told by asked(): 1.", t -> {
            t.is("row(0, 3)", 3);
            t.tells("lay(0, 0, LOW)", 0);
            t.tells("lay(0, 2, HIGH)", 0);
            t.tells("lay(0, 0, -1)", Integer.MIN_VALUE);
            t.tells("lay(0, 2, -9)", Integer.MAX_VALUE);
            t.tells("lay(0, 2, 0)", -9);
            t.rowIs(0, -1, 0, 0);
        });
        edges.test(3, "BAD; NOTHING; BEYOND.", t -> {
            t.is("row(0, 1)", 1);
            t.is("row(5, 40)", 40);
            t.is("row(1, 0)", 0);
            t.bad("lay(-1, 0, 1)", "lay(6, 0, 1)", "lay(LOW, 0, 1)", "lay(HIGH, 0, 1)");
            t.finds("lay(2, 0, 1)", Run.NOTHING);
            t.finds("lay(1, 0, 1)", Run.BEYOND);
            t.finds("lay(0, -1, 1)", Run.BEYOND);
            t.finds("lay(0, 1, 1)", Run.BEYOND);
            t.finds("lay(0, LOW, 1)", Run.BEYOND);
            t.finds("lay(0, HIGH, 1)", Run.BEYOND);
            t.tells("lay(0, 0, 4)", 0);
            t.tells("lay(5, 39, 4)", 0);
            t.finds("lay(5, 40, 1)", Run.BEYOND);
        });
        edges.test(3, "Refused is, the first of these that fits", t -> {
            t.bad("lay(6, -1, 0)", "lay(-1, 40, 0)");
            t.finds("lay(0, -1, 0)", Run.NOTHING);
            t.finds("lay(5, 40, 0)", Run.NOTHING);
        });
    }

    private static void at(Edges edges) {
        edges.test(4, "Place i of a ROW, told by asked(): 1.", t -> {
            t.is("row(5, 40)", 40);
            t.is("lay(5, 0, LOW)", 1);
            t.is("lay(5, 39, HIGH)", 1);
            t.tells("at(5, 0)", Integer.MIN_VALUE);
            t.tells("at(5, 1)", 0);
            t.tells("at(5, 38)", 0);
            t.tells("at(5, 39)", Integer.MAX_VALUE);
        });
        edges.test(4, "BAD; NOTHING; BEYOND.", t -> {
            t.is("row(0, 1)", 1);
            t.is("row(1, 0)", 0);
            t.is("lay(0, 0, 5)", 1);
            t.bad("at(-1, 0)", "at(6, 0)", "at(LOW, 0)", "at(HIGH, 0)");
            t.finds("at(2, 0)", Run.NOTHING);
            t.finds("at(1, 0)", Run.BEYOND);
            t.finds("at(0, -1)", Run.BEYOND);
            t.finds("at(0, 1)", Run.BEYOND);
            t.finds("at(0, LOW)", Run.BEYOND);
            t.finds("at(0, HIGH)", Run.BEYOND);
        });
        edges.test(4, "Refused is, the first of these that fits", t -> {
            t.bad("at(6, -1)", "at(-1, 40)");
            t.finds("at(0, -1)", Run.NOTHING);
            t.finds("at(5, 40)", Run.NOTHING);
        });
    }

    private static void tear(Edges edges) {
        edges.test(5, "A ROW is missing: 1.", t -> {
            t.row(0, "12");
            t.is("row(5, 0)", 0);
            t.is("tear(0)", 1);
            t.is("count(7)", 1);
            t.finds("at(0, 0)", Run.NOTHING);
            t.is("tear(5)", 1);
            t.is("count(7)", 0);
            t.finds("mean(5)", Run.NOTHING);
            t.is("row(0, 2)", 2);
            t.rowIs(0, 0, 0);
        });
        edges.test(5, "BAD; NOTHING.", t -> {
            t.is("row(0, 1)", 1);
            t.bad("tear(-1)", "tear(6)", "tear(LOW)", "tear(HIGH)");
            t.finds("tear(5)", Run.NOTHING);
            t.is("tear(0)", 1);
            t.finds("tear(0)", Run.NOTHING);
        });
    }

    private static void copy(Edges edges) {
        edges.test(6, "n places of a ROW, from one on, come to those of another one", t -> {
            t.row(0, "12345");
            t.row(5, "789");
            t.is("copy(0, 1, 5, 1, 1)", 1);
            t.rowIs(5, 7, 2, 9);
            t.is("copy(0, 2, 5, 0, 3)", 1);
            t.rowIs(5, 3, 4, 5);
            t.rowIs(0, 1, 2, 3, 4, 5);
        });
        edges.test(6, "(perhaps itself) from one on, as if taken ahead: 1.", t -> {
            t.row(0, "12345");
            t.is("copy(0, 0, 0, 1, 4)", 1);
            t.rowIs(0, 1, 1, 2, 3, 4);
            t.row(0, "12345");
            t.is("copy(0, 1, 0, 0, 4)", 1);
            t.rowIs(0, 2, 3, 4, 5, 5);
            t.is("copy(0, 0, 0, 0, 5)", 1);
            t.rowIs(0, 2, 3, 4, 5, 5);
            t.row(0, "123456");
            t.is("copy(0, 0, 0, 3, 3)", 1);
            t.rowIs(0, 1, 2, 3, 1, 2, 3);
        });
        edges.test(6, "n places of a ROW", t -> {
            t.is("row(1, 40)", 40);
            t.is("lay(1, 39, 9)", 1);
            t.is("row(2, 40)", 40);
            t.is("copy(1, 0, 2, 0, 40)", 1);
            t.tells("at(2, 39)", 9);
            t.finds("copy(1, 0, 2, 0, 41)", Run.BEYOND);
        });
    }

    private static void copyRefused(Edges edges) {
        edges.test(6, "BAD; SIZE: n below 0", t -> {
            t.row(0, "12");
            t.row(5, "34");
            t.bad("copy(-1, 0, 5, 0, 1)", "copy(6, 0, 5, 0, 1)", "copy(0, 0, -1, 0, 1)", "copy(0, 0, 6, 0, 1)",
                    "copy(LOW, 0, 5, 0, 1)", "copy(0, 0, HIGH, 0, 1)");
            t.finds("copy(0, 0, 5, 0, -1)", Run.SIZE);
            t.finds("copy(0, 0, 5, 0, LOW)", Run.SIZE);
            t.is("copy(0, 0, 5, 0, 0)", 1);
            t.rowIs(5, 3, 4);
        });
        edges.test(6, "NOTHING: either", t -> {
            t.row(0, "12");
            t.finds("copy(0, 0, 1, 0, 1)", Run.NOTHING);
            t.finds("copy(1, 0, 0, 0, 1)", Run.NOTHING);
            t.finds("copy(1, 0, 1, 0, 0)", Run.NOTHING);
            t.is("tear(0)", 1);
            t.finds("copy(0, 0, 0, 0, 1)", Run.NOTHING);
        });
        edges.test(6, "BEYOND: not so many there", t -> {
            t.row(0, "123");
            t.row(1, "45");
            t.is("copy(0, 1, 1, 0, 2)", 1);
            t.finds("copy(0, 2, 1, 0, 2)", Run.BEYOND);
            t.finds("copy(0, 1, 1, 1, 2)", Run.BEYOND);
            t.finds("copy(0, 0, 1, 0, 3)", Run.BEYOND);
            t.finds("copy(1, 0, 0, 0, 3)", Run.BEYOND);
            t.finds("copy(0, -1, 1, 0, 1)", Run.BEYOND);
            t.finds("copy(0, 0, 1, -1, 1)", Run.BEYOND);
            t.finds("copy(0, 0, 0, 0, HIGH)", Run.BEYOND);
            t.finds("copy(0, 1, 0, 1, HIGH)", Run.BEYOND);
            t.finds("copy(0, HIGH, 0, 0, 2)", Run.BEYOND);
            t.finds("copy(0, 0, 0, HIGH, 2)", Run.BEYOND);
            t.rowIs(1, 2, 3);
        });
        edges.test(6, "(also with n 0, if i, j is below 0, or above its size)", t -> {
            t.row(0, "123");
            t.is("row(1, 0)", 0);
            t.is("copy(0, 3, 1, 0, 0)", 1);
            t.is("copy(1, 0, 0, 3, 0)", 1);
            t.finds("copy(0, 4, 1, 0, 0)", Run.BEYOND);
            t.finds("copy(1, 0, 0, 4, 0)", Run.BEYOND);
            t.finds("copy(1, 1, 0, 0, 0)", Run.BEYOND);
            t.finds("copy(0, 0, 1, 1, 0)", Run.BEYOND);
            t.finds("copy(0, -1, 1, 0, 0)", Run.BEYOND);
            t.finds("copy(0, 0, 1, -1, 0)", Run.BEYOND);
            t.finds("copy(0, LOW, 1, 0, 0)", Run.BEYOND);
            t.finds("copy(0, 0, 1, HIGH, 0)", Run.BEYOND);
        });
        edges.test(6, "(In this order.)", t -> {
            t.row(0, "12");
            t.bad("copy(6, 0, 0, 0, -1)", "copy(0, 0, 6, 0, -1)", "copy(1, -1, 6, 0, 1)");
            t.finds("copy(1, 0, 0, 0, -1)", Run.SIZE);
            t.finds("copy(0, 0, 1, 0, -1)", Run.SIZE);
            t.finds("copy(0, -1, 0, 9, -1)", Run.SIZE);
            t.finds("copy(1, -1, 0, 0, 1)", Run.NOTHING);
            t.finds("copy(0, 3, 1, 0, 1)", Run.NOTHING);
        });
    }

    private static void mean(Edges edges) {
        edges.test(7, "The mean of a ROW's ints, cut, told by asked(): 1.", t -> {
            t.row(0, "34");
            t.tells("mean(0)", 3);
            t.row(0, "110");
            t.tells("mean(0)", 0);
            t.row(0, "8");
            t.tells("mean(0)", 8);
            t.is("lay(0, 0, -8)", 1);
            t.tells("mean(0)", -8);
            t.is("row(0, 2)", 2);
            t.is("lay(0, 0, -7)", 1);
            t.tells("mean(0)", -3);
            t.is("lay(0, 0, -1)", 1);
            t.tells("mean(0)", 0);
            t.is("lay(0, 0, HIGH)", 1);
            t.is("lay(0, 1, LOW)", 1);
            t.tells("mean(0)", 0);
        });
        edges.test(7, "The mean of a ROW's ints", t -> {
            t.is("row(0, 40)", 40);
            t.is("row(5, 40)", 40);
            for (int i = 0; i < 40; i++) {
                t.is("lay(0, " + i + ", HIGH)", 1);
                t.is("lay(5, " + i + ", LOW)", 1);
            }
            t.tells("mean(0)", Integer.MAX_VALUE);
            t.tells("mean(5)", Integer.MIN_VALUE);
        });
        edges.test(7, "BAD; NOTHING; NOUGHT.", t -> {
            t.is("row(0, 0)", 0);
            t.bad("mean(-1)", "mean(6)", "mean(LOW)", "mean(HIGH)");
            t.finds("mean(5)", Run.NOTHING);
            t.finds("mean(0)", Run.NOUGHT);
            t.is("row(0, 1)", 1);
            t.tells("mean(0)", 0);
        });
    }

    private static void text(Edges edges) {
        edges.test(8, "A TEXT is there with n blanks: n.", t -> {
            t.is("text(0, 0)", 0);
            t.finds("put(0, 0, 65)", Run.BEYOND);
            t.is("text(3, 80)", 80);
            t.is("count(8)", 2);
            for (int i = 0; i < 80; i++) {
                t.is("put(3, " + i + ", 65)", 1032);
            }
            t.finds("put(3, 80, 65)", Run.BEYOND);
            t.is("text(3, 80)", 80);
            t.is("put(3, 0, 65)", 1032);
            t.is("put(3, 79, 65)", 1032);
            t.is("text(3, 2)", 2);
            t.finds("put(3, 2, 65)", Run.BEYOND);
            t.is("text(3, 3)", 3);
            t.is("put(3, 2, 65)", 1032);
        });
        edges.test(8, "TEXTS 0 .. 3", t -> {
            t.is("text(0, 1)", 1);
            t.is("text(3, 1)", 1);
            t.bad("text(-1, 1)", "text(4, 1)", "text(LOW, 1)", "text(HIGH, 1)");
            t.is("count(8)", 2);
        });
        edges.test(8, "BAD: also n above 80", t -> {
            t.is("text(1, 80)", 80);
            t.is("put(1, 79, 66)", 1032);
            t.bad("text(1, 81)", "text(1, HIGH)", "text(2, 81)");
            t.is("put(1, 79, 66)", 1066);
            t.finds("put(2, 0, 66)", Run.NOTHING);
        });
        edges.test(8, "SIZE: below 0", t -> {
            t.is("text(1, 0)", 0);
            t.is("text(2, 1)", 1);
            t.finds("text(1, -1)", Run.SIZE);
            t.finds("text(2, -1)", Run.SIZE);
            t.finds("text(2, LOW)", Run.SIZE);
            t.finds("text(0, -1)", Run.SIZE);
            t.is("put(2, 0, 66)", 1032);
            t.is("count(8)", 2);
        });
        edges.test(8, "Refused is, the first of these that fits", t -> t.bad("text(4, -1)", "text(-1, LOW)", "text(4, 81)"));
    }

    private static void put(Edges edges) {
        edges.test(9, "Byte i of a TEXT is v, cut to a byte (-128 .. 127): what it was, and 1000 more.", t -> {
            t.is("text(0, 1)", 1);
            int[] told = {127, 128, -128, -129, 255, 256, -1, -256, 384, Integer.MIN_VALUE, Integer.MAX_VALUE};
            int[] byCut = {127, -128, -128, 127, -1, 0, -1, 0, -128, 0, -1};
            int was = 32;
            for (int i = 0; i < told.length; i++) {
                t.is("put(0, 0, " + told[i] + ")", 1000 + was);
                was = byCut[i];
            }
            t.is("put(0, 0, 32)", 1000 + was);
        });
        edges.test(9, "BAD; NOTHING; BEYOND.", t -> {
            t.is("text(0, 1)", 1);
            t.is("text(3, 80)", 80);
            t.is("text(1, 0)", 0);
            t.bad("put(-1, 0, 65)", "put(4, 0, 65)", "put(LOW, 0, 65)", "put(HIGH, 0, 65)");
            t.finds("put(2, 0, 65)", Run.NOTHING);
            t.finds("put(1, 0, 65)", Run.BEYOND);
            t.finds("put(0, -1, 65)", Run.BEYOND);
            t.finds("put(0, 1, 65)", Run.BEYOND);
            t.finds("put(0, LOW, 65)", Run.BEYOND);
            t.finds("put(0, HIGH, 65)", Run.BEYOND);
            t.is("put(0, 0, 65)", 1032);
            t.is("put(3, 79, 65)", 1032);
            t.finds("put(3, 80, 65)", Run.BEYOND);
        });
        edges.test(9, "Refused is, the first of these that fits", t -> {
            t.bad("put(4, -1, 0)", "put(-1, 80, 0)");
            t.finds("put(0, -1, 0)", Run.NOTHING);
            t.finds("put(3, 80, 0)", Run.NOTHING);
        });
    }
}

/** Promises 1 to 14, each with its whole text and ordinary inputs: ROWS, TEXTS, FLOURS, DOINGS. */
final class ReadRows {
    private ReadRows() {
    }

    static void addTo(Edges read) {
        newObject(read);
        rowLayAt(read);
        tear(read);
        copy(read);
        mean(read);
        texts(read);
        fault(read);
        flourAndDoing(read);
        aboutAndStep(read);
    }

    private static void newObject(Edges read) {
        read.test(1, "No ROWS, TEXTS, FLOURS, DOINGS, LOAF, SLIPS.", t -> {
            for (int r = 0; r <= 5; r++) {
                t.finds("tear(" + r + ")", Run.NOTHING);
            }
            for (int k = 0; k <= 3; k++) {
                t.finds("fault(" + k + ", false)", Run.NOTHING);
                t.finds("about(" + k + ", 1)", Run.NOTHING);
                t.finds("step(" + k + ", 1)", Run.NOTHING);
            }
            t.refuses("cell(11, 2)", Run.STATE);
            t.refuses("keep(1)", Run.STATE);
            t.finds("on(1)", Run.NOTHING);
            t.bad("told(0, 1)", "fall(0, 1)");
        });
    }

    private static void rowLayAt(Edges read) {
        read.test(2, "A ROW is there with n ints 0: n. BAD: also n above 40; SIZE: below 0.", t -> {
            t.is("row(4, 13)", 13);
            t.rowIs(4, 0, 0, 0, 0, 0, 0, 0, 0, 0, 0, 0, 0, 0);
            t.is("lay(4, 2, 8)", 1);
            t.is("row(4, 3)", 3);
            t.rowIs(4, 0, 0, 0);
            t.finds("at(4, 3)", Run.BEYOND);
            t.bad("row(6, 13)", "row(4, 50)");
            t.finds("row(4, -7)", Run.SIZE);
            t.is("count(7)", 1);
        });
        read.test(3, "Place i of a ROW is v: what it was, told by asked(): 1. BAD; NOTHING; BEYOND.", t -> {
            t.is("row(1, 6)", 6);
            t.tells("lay(1, 4, -250)", 0);
            t.tells("lay(1, 4, 1000000)", -250);
            t.tells("lay(1, 4, 7)", 1000000);
            t.rowIs(1, 0, 0, 0, 0, 7, 0);
            t.bad("lay(9, 4, 7)");
            t.finds("lay(2, 4, 7)", Run.NOTHING);
            t.finds("lay(1, 6, 7)", Run.BEYOND);
        });
        read.test(4, "Place i of a ROW, told by asked(): 1. BAD; NOTHING; BEYOND.", t -> {
            t.row(0, "31415");
            t.rowIs(0, 3, 1, 4, 1, 5);
            t.rowIs(0, 3, 1, 4, 1, 5);
            t.bad("at(-2, 0)");
            t.finds("at(5, 0)", Run.NOTHING);
            t.finds("at(0, 5)", Run.BEYOND);
            t.finds("at(0, -5)", Run.BEYOND);
        });
    }

    private static void tear(Edges read) {
        read.test(5, "A ROW is missing: 1. BAD; NOTHING.", t -> {
            t.row(2, "12");
            t.row(3, "34");
            t.is("tear(2)", 1);
            t.finds("at(2, 0)", Run.NOTHING);
            t.rowIs(3, 3, 4);
            t.finds("tear(2)", Run.NOTHING);
            t.bad("tear(6)");
            t.is("row(2, 2)", 2);
            t.rowIs(2, 0, 0);
        });
    }

    private static void copy(Edges read) {
        read.test(6, "n places of a ROW, from one on, come to those of another one (perhaps itself) from one on, as if taken"
                + " ahead: 1. BAD; SIZE: n below 0; NOTHING: either; BEYOND: not so many there (also with n 0, if i, j is"
                + " below 0, or above its size). (In this order.)", t -> {
            t.row(0, "12345678");
            t.row(1, "9999");
            t.is("copy(0, 3, 1, 1, 2)", 1);
            t.rowIs(1, 9, 4, 5, 9);
            t.rowIs(0, 1, 2, 3, 4, 5, 6, 7, 8);
            t.is("copy(0, 0, 0, 2, 5)", 1);
            t.rowIs(0, 1, 2, 1, 2, 3, 4, 5, 8);
            t.is("copy(0, 3, 0, 1, 4)", 1);
            t.rowIs(0, 1, 2, 3, 4, 5, 4, 5, 8);
            t.is("copy(0, 8, 1, 4, 0)", 1);
            t.bad("copy(6, 0, 2, 0, -1)");
            t.finds("copy(0, 0, 2, 0, -1)", Run.SIZE);
            t.finds("copy(0, 9, 2, 0, 3)", Run.NOTHING);
            t.finds("copy(0, 6, 1, 0, 3)", Run.BEYOND);
            t.finds("copy(0, 0, 1, 2, 3)", Run.BEYOND);
            t.finds("copy(0, 9, 1, 0, 0)", Run.BEYOND);
            t.finds("copy(0, 0, 1, -1, 0)", Run.BEYOND);
            t.rowIs(1, 9, 4, 5, 9);
        });
    }

    private static void mean(Edges read) {
        read.test(7, "The mean of a ROW's ints, cut, told by asked(): 1. BAD; NOTHING; NOUGHT.", t -> {
            t.row(3, "9874");
            t.tells("mean(3)", 28 / 4);
            t.row(3, "998");
            t.tells("mean(3)", 8);
            t.is("lay(3, 0, -100)", 1);
            t.is("lay(3, 1, -100)", 1);
            t.tells("mean(3)", -64);
            t.bad("mean(7)");
            t.finds("mean(0)", Run.NOTHING);
            t.is("row(0, 0)", 0);
            t.finds("mean(0)", Run.NOUGHT);
        });
    }

    private static void texts(Edges read) {
        read.test(8, "A TEXT is there with n blanks: n. BAD: also n above 80; SIZE: below 0.", t -> {
            t.is("text(2, 5)", 5);
            for (int i = 0; i < 5; i++) {
                t.is("put(2, " + i + ", 107)", 1032);
            }
            t.is("doing(0, 2)", 5);
            t.is("text(2, 6)", 6);
            t.is("doing(0, 2)", 0);
            t.bad("text(4, 5)", "text(2, 100)");
            t.finds("text(2, -5)", Run.SIZE);
            t.is("put(2, 5, 32)", 1032);
        });
        read.test(9, "Byte i of a TEXT is v, cut to a byte (-128 .. 127): what it was, and 1000 more. BAD; NOTHING; BEYOND.", t -> {
            t.is("text(0, 3)", 3);
            t.is("put(0, 1, 65)", 1032);
            t.is("put(0, 1, 200)", 1065);
            t.is("put(0, 1, 377)", 1000 + 200 - 256);
            t.is("put(0, 1, -1000)", 1000 + 377 - 256);
            t.is("put(0, 1, 0)", 1000 - 1000 + 4 * 256);
            t.is("put(0, 0, 32)", 1032);
            t.bad("put(4, 1, 65)");
            t.finds("put(1, 1, 65)", Run.NOTHING);
            t.finds("put(0, 3, 65)", Run.BEYOND);
        });
    }

    private static void fault(Edges read) {
        read.test(10, "A FAULT of a TEXT of a FLOUR (doing: of a DOING); NONE: there is none. BAD; NOTHING.", t -> {
            t.text(1, "y7 w2");
            t.is("fault(1, false)", Run.NONE);
            t.is("fault(1, true)", 0);
            t.text(1, "k o8:20 r2:6");
            t.is("fault(1, true)", Run.NONE);
            t.is("fault(1, false)", 0);
            t.text(1, "y7 w2 k");
            t.is("fault(1, false)", 6);
            t.text(1, "k o8:20 y7");
            t.is("fault(1, true)", 8);
            t.bad("fault(4, true)", "fault(-1, false)");
            t.finds("fault(2, true)", Run.NOTHING);
            t.finds("fault(2, false)", Run.NOTHING);
        });
    }

    private static void flourAndDoing(Edges read) {
        read.test(11, "A FLOUR by a TEXT (anew): how many items. BAD; NOTHING; STATE: a FAULT. (STATE behind NOTHING.)", t -> {
            t.text(0, "y4 s30 t3");
            t.is("flour(2, 0)", 3);
            t.tells("about(2, 1)", 30);
            t.text(0, "e6");
            t.is("flour(2, 0)", 1);
            t.tells("about(2, 0)", 3);
            t.tells("about(2, 1)", 40);
            t.tells("about(2, 2)", 6);
            t.text(0, "s55 e");
            t.refuses("flour(2, 0)", Run.STATE);
            t.tells("about(2, 2)", 6);
            t.finds("flour(2, 1)", Run.NOTHING);
            t.bad("flour(4, 0)", "flour(2, 4)");
            t.is("count(0)", 1);
        });
        read.test(12, "A DOING by a TEXT (anew): how many STEPS. BAD; NOTHING; STATE: a FAULT. (STATE behind NOTHING.)", t -> {
            t.text(0, "k r3:8 x r3:4 o9:10");
            t.is("doing(1, 0)", 5);
            t.tells("step(1, 4)", 2, 910);
            t.text(0, "o7:15");
            t.is("doing(1, 0)", 1);
            t.tells("step(1, 0)", 2, 715);
            t.finds("step(1, 1)", Run.BEYOND);
            t.text(0, "o7:15 o");
            t.refuses("doing(1, 0)", Run.STATE);
            t.tells("step(1, 0)", 2, 715);
            t.finds("doing(1, 2)", Run.NOTHING);
            t.bad("doing(4, 0)", "doing(1, 4)");
            t.is("count(1)", 1);
        });
    }

    private static void aboutAndStep(Edges read) {
        read.test(13, "Of a FLOUR: 0 YEAST, 1 STRONG, 2 SPROUT, 3 WET, 4 SALT, all told by asked(): 1. BAD; NOTHING.", t -> {
            t.flour(3, "t9 w8 e7 s65 y4");
            t.tells("about(3, 0)", 4);
            t.tells("about(3, 1)", 65);
            t.tells("about(3, 2)", 7);
            t.tells("about(3, 3)", 8);
            t.tells("about(3, 4)", 9);
            t.bad("about(3, 5)", "about(4, 0)");
            t.finds("about(0, 4)", Run.NOTHING);
        });
        read.test(14, "STEP i of a DOING, as 1 REST, 2 OVEN, 3 KNEAD, 4 KNOCK, 5 DOOR; 100 times w and n by asked() (0). BAD;"
                + " NOTHING; BEYOND.", t -> {
            t.doing(2, "d r4:25 x o8:3 k");
            t.tells("step(2, 0)", 5, 0);
            t.tells("step(2, 1)", 1, 425);
            t.tells("step(2, 2)", 4, 0);
            t.tells("step(2, 3)", 2, 803);
            t.tells("step(2, 4)", 3, 0);
            t.bad("step(4, 0)");
            t.finds("step(1, 0)", Run.NOTHING);
            t.finds("step(2, 5)", Run.BEYOND);
        });
    }
}

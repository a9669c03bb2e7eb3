/** Promises 42 to 48, each with its whole text and ordinary inputs: what is told. */
final class ReadTold {
    private ReadTold() {
    }

    static void addTo(Edges read) {
        asked(read);
        fractions(read);
        count(read);
        findings(read);
        digest(read);
    }

    private static void asked(Edges read) {
        read.test(42, "What the latest lay(), at(), mean(), about(), step(), cell(), fall(), height(), holes(), why(), sprout(), rack(),"
                + " change(), changes(), wide(), flours(), begin(), oven(), even(), told(), law(), spans(), foretell() that was"
                + " not refused (nor NONE) told; 0 before.", t -> {
            t.is("asked()", 0);
            t.row(0, "75");
            t.tells("mean(0)", 6);
            t.finds("mean(1)", Run.NOTHING);
            t.is("count(7)", 1);
            t.is("asked()", 6);
            t.loaf("", "r2:9");
            t.is("go(9)", 9);
            t.is("asked()", 6);
            t.tells("height()", 132, 132);
            t.bad("cell(24, 0)");
            t.is("cut(0)", 0);
            t.is("rests(2)", 12);
            t.is("asked()", 132);
            t.tells("wide(0)", 1, 15);
            t.loaf("", "");
            t.refuses("change()", Run.NONE);
            t.is("asked()", 15);
            t.tells("about(0, 1)", 40);
        });
    }

    /** Three of four FLOURS are STICKY all over by "", one is TORN. */
    private static void fractions(Edges read) {
        for (int promise = 43; promise <= 44; promise++) {
            read.test(promise, promise == 43 ? "The upper number of the fraction that was told last; 0 before."
                    : "Its lower number; 1 before.", t -> {
                t.is("upper()", 0);
                t.is("lower()", 1);
                t.flour(0, "");
                t.flour(1, "y2");
                t.flour(2, "y9s10");
                t.flour(3, "y4");
                t.doing(1, "");
                t.doing(2, "k");
                t.row(4, "2".repeat(24));
                t.parts("odds(4, 3)", 6, 1, 3);
                t.tells("flours(1)", 1 + 2 + 8, 1 + 8);
                t.finds("odds(3, 3)", Run.NOTHING);
                t.is("upper()", 1);
                t.is("lower()", 3);
                t.row(4, "1".repeat(24));
                t.parts("odds(4, 2)", 2, 1, 1);
                t.parts("odds(4, 0)", 2, 0, 1);
            });
        }
    }

    private static void count(Edges read) {
        read.test(45, "0 FLOURS, 1 DOINGS, 2 the LOAF's TURN (0: none), 3 FALLS, 4 UNDONE ones (SPROUTED, too), 5 kept LOAVES, 6"
                + " SLIPS, 7 ROWS, 8 TEXTS that are there. BAD.", t -> {
            t.loaf("y5t5s99", "o2:24o4:1r9:1");
            t.flour(2, "");
            t.doing(1, "");
            t.doing(3, "k");
            t.is("go(26)", 26);
            t.is("keep(1)", 26);
            t.is("slip(0, 100)", 0);
            t.is("slip(0, 101)", 1);
            t.is("cut(4)", 10);
            t.is("text(0, 5)", 5);
            int[] due = {2, 3, 26, 10, 10, 1, 2, 1, 2};
            for (int what = 0; what <= 8; what++) {
                t.is("count(" + what + ")", due[what]);
            }
            t.bad("count(9)", "count(-1)");
            t.loaf("y5t5s99e8", "o2:24o4:1r9:1");
            t.is("go(26)", 26);
            t.is("count(4)", 10);
            t.loaf("y9s37", "r2:5x");
            t.is("go(6)", 6);
            t.is("count(3)", 24);
            t.is("count(4)", 0);
        });
    }

    private static void findings(Edges read) {
        read.test(46, "The latest FINDING (0 before any).", t -> {
            t.is("finding()", 0);
            t.finds("at(3, 1)", Run.NOTHING);
            t.is("row(3, 1)", 1);
            t.is("finding()", Run.NOTHING);
            t.finds("at(3, 1)", Run.BEYOND);
            t.refuses("go(1)", Run.STATE);
            t.is("finding()", Run.BEYOND);
        });
        read.test(47, "How often a FINDING (1 .. 5) was answered. BAD.", t -> {
            for (int n = 1; n <= 7; n++) {
                t.finds("at(3, 1)", Run.NOTHING);
                t.is("findings(1)", n);
            }
            t.finds("row(3, -1)", Run.SIZE);
            t.is("findings(1)", 7);
            t.is("findings(5)", 1);
            t.is("findings(2)", 0);
            t.bad("findings(6)");
        });
    }

    private static long fold(int... values) {
        long h = 17;
        for (int v : values) {
            h = 31 * h + v;
        }
        return h;
    }

    private static void digest(Edges read) {
        read.test(48, "h = 17; then h = 31 h + v for each v (of a call that tells by asked(): what it tells, not the 1 that it answers;"
                + " asked() stays): count() 0 to 8; of each FLOUR (-1 once: missing) about() 0 to 4; of each DOING (-1 once:"
                + " missing) of each STEP what step() answers, then its asked(); of the LOAF (-1 once: none) of each CELL cell() 0"
                + " to 4, of each FALL fall() 0 to 3; of each SLIP told() 0, 1; of each ROW its size (-1: missing) and places, of"
                + " each TEXT likewise.", t -> {
            t.text(1, "y7");
            t.is("flour(2, 1)", 1);
            t.text(0, "kr3:8");
            t.is("doing(1, 0)", 2);
            t.is("slip(3, 140)", 0);
            t.row(2, "58");
            t.tells("at(2, 1)", 8);
            t.is("digest()", fold(1, 1, 0, 0, 0, 0, 1, 1, 2, -1, -1, 7, 40, 1, 4, 2, -1, -1, 3, 0, 1, 308, -1, -1, -1, 3, 140,
                    -1, -1, 2, 5, 8, -1, -1, -1, 5, 107, 114, 51, 58, 56, 2, 121, 55, -1, -1));
            t.is("asked()", 8);
        });
    }
}

/**
 * Promises 37 to 41, each with its whole text and ordinary inputs. By the usual FLOUR and YEAST 1 .. 9 GAS is 0, 1, 2, 3, 4,
 * 4, 5, 6, 7 for each TURN of HEAT 20: HEIGHT is 120, 120, 132, 132, 144, 144, 156, 156, 168 by 6 TURNS and 120, 132, 144,
 * 156, 168, 168, 180, 192, 204 by 10 of them, as long as STRONG is enough for none to tear; all TORN it is 48.
 */
final class ReadSlips {
    private ReadSlips() {
    }

    static void addTo(Edges read) {
        slips(read);
        law(read);
        spans(read);
        foretell(read);
    }

    /** DOING 0 takes 6 TURNS on the TABLE, DOING 1 takes 10. */
    private static void begun(Run t) {
        t.flour(0, "");
        t.doing(0, "");
        t.doing(1, "r2:4");
    }

    private static void slips(Edges read) {
        read.test(37, "A SLIP: its number. BAD; FULL.", t -> {
            t.is("slip(2, 150)", 0);
            t.is("slip(2, 150)", 1);
            t.is("slip(1, 88)", 2);
            t.bad("slip(5, 150)", "slip(2, 2000)");
            for (int s = 3; s < 12; s++) {
                t.is("slip(0, " + 50 * s + ")", s);
            }
            t.refuses("slip(0, 600)", Run.FULL);
        });
        read.test(38, "Of a SLIP: 0 its DOING, 1 its HEIGHT, all told by asked(): 1. BAD.", t -> {
            t.is("slip(2, 150)", 0);
            t.is("slip(1, 88)", 1);
            t.tells("told(0, 0)", 2);
            t.tells("told(0, 1)", 150);
            t.tells("told(1, 0)", 1);
            t.tells("told(1, 1)", 88);
            t.bad("told(2, 0)", "told(1, 2)");
        });
    }

    /** STRONG 10 tears by YEAST 3 in the 7th TURN, by YEAST 5 in the 5th; STRONG 20 by YEAST 5 in the 8th, 30 in the 11th. */
    private static void law(Edges read) {
        read.test(39, "The LAW of the least OFF by a FLOUR (of alike ones the first), as 100 times YEAST and STRONG; OFF by asked()."
                + " BAD; NOTHING: the FLOUR; NOUGHT: there are no SLIPS; NOTHING: a SLIP's DOING. (In this order.)", t -> {
            t.bad("law(4)");
            t.finds("law(0)", Run.NOTHING);
            t.flour(0, "");
            t.finds("law(0)", Run.NOUGHT);
            t.is("slip(0, 130)", 0);
            t.finds("law(0)", Run.NOTHING);
            begun(t);
            t.tells("law(0)", 310, 2);
            t.is("slip(1, 150)", 1);
            t.tells("law(0)", 320, 2 + 6);
            t.is("slip(1, 170)", 2);
            t.is("slip(1, 168)", 3);
            t.tells("law(0)", 430, 2 + 6 + 14 + 12);
            t.is("slip(0, 143)", 4);
            t.tells("law(0)", 530, 14 + 18 + 2 + 0 + 1);
        });
    }

    /** By 6 TURNS 18 LAWS make 120 (YEAST 1, 2), 17 make 132 (YEAST 3, 4); YEAST 2, STRONG 10 tears in the 9th. */
    private static void spans(Edges read) {
        read.test(40, "How many LAWS are OFF by v (0 .. 999) more than the least at most; by these the least HEIGHT (most: the greatest"
                + " one) of a DOING, baked, by asked(). BAD; NOTHING: the FLOUR, the DOING; NOUGHT; NOTHING: a SLIP's DOING. (In"
                + " this order.)", t -> {
            begun(t);
            t.finds("spans(0, 5, 1, true)", Run.NOUGHT);
            t.is("slip(0, 125)", 0);
            t.tells("spans(0, 1, 0, false)", 18, 120);
            t.tells("spans(0, 1, 1, true)", 18, 132);
            t.tells("spans(0, 1, 1, false)", 18, 48);
            t.tells("spans(0, 2, 0, false)", 35, 120);
            t.tells("spans(0, 2, 0, true)", 35, 132);
            t.tells("spans(0, 2, 1, true)", 35, 156);
            t.is("slip(2, 125)", 1);
            t.finds("spans(0, 2, 1, true)", Run.NOTHING);
            t.finds("spans(1, 2, 1, true)", Run.NOTHING);
            t.finds("spans(0, 2, 3, true)", Run.NOTHING);
            t.bad("spans(0, 1000, 1, true)", "spans(0, 2, 4, true)");
        });
    }

    private static void foretell(Edges read) {
        read.test(41, "HEIGHT of a DOING, baked by the LAW that law() tells; WORTH by asked(). BAD; NOTHING: the FLOUR, the DOING;"
                + " NOUGHT; NOTHING: a SLIP's DOING. (In this order.)", t -> {
            begun(t);
            t.finds("foretell(0, 1)", Run.NOUGHT);
            t.is("slip(1, 145)", 0);
            t.tells("law(0)", 320, 1);
            t.tells("foretell(0, 0)", 132, 132);
            t.tells("foretell(0, 1)", 144, 144);
            t.doing(2, "r2:6");
            t.tells("foretell(0, 2)", 48, 0);
            t.finds("foretell(0, 3)", Run.NOTHING);
            t.finds("foretell(2, 0)", Run.NOTHING);
            t.is("slip(3, 145)", 1);
            t.finds("foretell(0, 0)", Run.NOTHING);
            t.bad("foretell(4, 0)", "foretell(0, 4)");
        });
    }
}

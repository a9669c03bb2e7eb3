/**
 * Edges of promises 37 to 41: SLIPS and LAWS. By the usual FLOUR and "" LAWS make these HEIGHTS: 120 by 18 of
 * them (YEAST 1, 2), 132 by 17 (3, 4), 144 by 16 (5, 6), 156 by 15 (7, 8), 168 by 7 (9), 48, all TORN, by 8.
 */
final class EdgeSlips {
    private EdgeSlips() {
    }

    static void addTo(Edges edges) {
        slip(edges);
        slipRefused(edges);
        told(edges);
        law(edges);
        lawRefused(edges);
        spans(edges);
        spansRefused(edges);
        foretell(edges);
    }

    /** FLOUR 0 as usual, DOING 0 of no STEP. */
    private static void begun(Run t) {
        t.is("text(0, 0)", 0);
        t.is("flour(0, 0)", 0);
        t.is("doing(0, 0)", 0);
    }

    // ---- 37, 38

    private static void slip(Edges edges) {
        edges.test(37, "A SLIP: its number. BAD; FULL.", t -> {
            for (int s = 0; s < 12; s++) {
                t.is("slip(" + s % 4 + ", " + s + ")", s);
                t.is("count(6)", s + 1);
            }
            t.refuses("slip(0, 0)", Run.FULL);
            t.refuses("slip(3, 999)", Run.FULL);
            t.bad("slip(4, 0)", "slip(-1, 0)", "slip(0, 1000)", "slip(0, -1)");
            t.is("count(6)", 12);
            t.tells("told(11, 1)", 11);
        });
    }

    private static void slipRefused(Edges edges) {
        edges.test(37, "(12 at most) tell a DOING (0 .. 3) and a HEIGHT (0 .. 999)", t -> {
            t.bad("slip(-1, 5)", "slip(4, 5)", "slip(0, -1)", "slip(0, 1000)", "slip(LOW, 5)", "slip(HIGH, 5)",
                    "slip(0, LOW)", "slip(0, HIGH)");
            t.is("count(6)", 0);
            t.is("slip(0, 0)", 0);
            t.is("slip(3, 999)", 1);
            t.is("slip(3, 0)", 2);
            t.is("count(1)", 0);
        });
    }

    private static void told(Edges edges) {
        edges.test(38, "Of a SLIP: 0 its DOING, 1 its HEIGHT, all told by asked(): 1. BAD.", t -> {
            t.bad("told(0, 0)", "told(0, 1)", "told(-1, 0)");
            t.is("slip(3, 999)", 0);
            t.is("slip(0, 0)", 1);
            t.tells("told(0, 0)", 3);
            t.tells("told(0, 1)", 999);
            t.tells("told(1, 0)", 0);
            t.tells("told(1, 1)", 0);
            t.bad("told(2, 0)", "told(-1, 1)", "told(0, -1)", "told(0, 2)", "told(HIGH, 0)", "told(LOW, 0)",
                    "told(0, LOW)", "told(0, HIGH)");
        });
        edges.test(38, "SLIPS 0, 1, .. (12 at most)", t -> {
            for (int s = 0; s < 12; s++) {
                t.is("slip(1, " + (900 + s) + ")", s);
            }
            t.tells("told(11, 1)", 911);
            t.bad("told(12, 0)", "told(12, 1)");
        });
    }

    // ---- 39

    private static void law(Edges edges) {
        edges.test(39, "YEAST 1 .. 9, STRONG 10, 20, .. 90 (by YEAST, then STRONG)", t -> {
            t.flour(0, "t9");
            t.doing(0, "");
            t.is("slip(0, 120)", 0);
            t.tells("law(0)", 110, 0);
            t.anew();
            t.flour(0, "t0");
            t.doing(0, "r2:8");
            t.is("slip(0, 999)", 0);
            t.tells("law(0)", 990, 999 - 264);
        });
        edges.test(39, "The LAW of the least OFF by a FLOUR (of alike ones the first)", t -> {
            begun(t);
            t.is("slip(0, 150)", 0);
            t.tells("law(0)", 520, 6);
            t.anew();
            begun(t);
            t.is("slip(0, 126)", 0);
            t.tells("law(0)", 110, 6);
            t.anew();
            begun(t);
            t.is("slip(0, 0)", 0);
            t.tells("law(0)", 410, 48);
            t.anew();
            begun(t);
            t.is("slip(0, 999)", 0);
            t.tells("law(0)", 930, 999 - 168);
        });
        edges.test(39, "from those of all SLIPS together", t -> {
            begun(t);
            t.is("flour(3, 0)", 0);
            t.is("doing(3, 0)", 0);
            for (int s = 0; s < 12; s++) {
                t.is("slip(" + s % 2 * 3 + ", " + (s < 6 ? 0 : 999) + ")", s);
            }
            t.tells("law(3)", 110, 6 * 999);
            t.anew();
            begun(t);
            for (int s = 0; s < 12; s++) {
                t.is("slip(0, " + (s < 11 ? 145 : 140) + ")", s);
            }
            t.tells("law(0)", 520, 11 + 4);
        });
        edges.test(39, "all else as a FLOUR", t -> {
            t.flour(0, "y9s99t9");
            t.doing(0, "");
            t.is("slip(0, 999)", 0);
            t.tells("law(0)", 110, 999 - 120);
            t.tells("about(0, 0)", 9);
            t.tells("about(0, 1)", 99);
        });
    }

    private static void lawRefused(Edges edges) {
        edges.test(39, "BAD; NOTHING: the FLOUR; NOUGHT: there are no SLIPS; NOTHING: a SLIP's DOING. (In this order.)", t -> {
            t.bad("law(-1)", "law(4)", "law(LOW)", "law(HIGH)");
            t.finds("law(0)", Run.NOTHING);
            t.flour(3, "");
            t.finds("law(0)", Run.NOTHING);
            t.finds("law(3)", Run.NOUGHT);
            t.doing(0, "");
            t.finds("law(3)", Run.NOUGHT);
            t.is("slip(1, 145)", 0);
            t.finds("law(3)", Run.NOTHING);
            t.finds("law(0)", Run.NOTHING);
            t.is("slip(0, 145)", 1);
            t.finds("law(3)", Run.NOTHING);
            t.doing(1, "");
            t.tells("law(3)", 520, 2);
            t.is("slip(3, 145)", 2);
            t.finds("law(3)", Run.NOTHING);
            t.bad("law(4)");
        });
    }

    // ---- 40

    private static void spans(Edges edges) {
        edges.test(40, "How many LAWS are OFF by v (0 .. 999) more than the least at most", t -> {
            begun(t);
            t.is("slip(0, 145)", 0);
            int[] more = {0, 9, 10, 11, 12, 21, 22, 23, 24, 95, 96, 999};
            int[] laws = {16, 16, 31, 31, 48, 48, 55, 55, 73, 73, 81, 81};
            for (int i = 0; i < more.length; i++) {
                t.is("spans(0, " + more[i] + ", 0, true)", laws[i]);
            }
        });
        edges.test(40, "by these the least HEIGHT (most: the greatest one) of a DOING, baked, by asked()", t -> {
            begun(t);
            t.is("slip(0, 145)", 0);
            t.tells("spans(0, 0, 0, false)", 16, 144);
            t.tells("spans(0, 0, 0, true)", 16, 144);
            t.tells("spans(0, 9, 0, true)", 16, 144);
            t.tells("spans(0, 10, 0, true)", 31, 156);
            t.tells("spans(0, 11, 0, false)", 31, 144);
            t.tells("spans(0, 12, 0, false)", 48, 132);
            t.tells("spans(0, 22, 0, true)", 55, 168);
            t.tells("spans(0, 95, 0, false)", 73, 120);
            t.tells("spans(0, 96, 0, false)", 81, 48);
            t.tells("spans(0, 999, 0, true)", 81, 168);
        });
        edges.test(40, "How many LAWS", t -> {
            t.flour(0, "t0");
            t.doing(0, "r2:8");
            t.is("slip(0, 999)", 0);
            t.tells("spans(0, 0, 0, false)", 1, 264);
            t.tells("spans(0, 0, 0, true)", 1, 264);
            t.is("spans(0, 11, 0, true)", 1);
            t.tells("spans(0, 12, 0, false)", 2, 252);
        });
    }

    private static void spansRefused(Edges edges) {
        edges.test(40, "BAD; NOTHING: the FLOUR, the DOING; NOUGHT; NOTHING: a SLIP's DOING. (In this order.)", t -> {
            t.bad("spans(-1, 0, 0, true)", "spans(4, 0, 0, true)", "spans(0, -1, 0, true)",
                    "spans(0, 1000, 0, true)", "spans(0, 0, -1, true)", "spans(0, 0, 4, false)");
            t.finds("spans(0, 0, 0, true)", Run.NOTHING);
            t.flour(3, "");
            t.finds("spans(3, 0, 0, true)", Run.NOTHING);
            t.doing(3, "");
            t.finds("spans(0, 0, 3, true)", Run.NOTHING);
            t.finds("spans(3, 999, 3, false)", Run.NOUGHT);
            t.finds("spans(3, 0, 0, true)", Run.NOTHING);
            t.is("slip(1, 145)", 0);
            t.finds("spans(3, 0, 3, true)", Run.NOTHING);
            t.doing(1, "");
            t.tells("spans(3, 0, 3, true)", 16, 144);
            t.finds("spans(3, 0, 0, true)", Run.NOTHING);
            t.finds("spans(0, 0, 3, true)", Run.NOTHING);
            t.bad("spans(3, 1000, 3, true)", "spans(3, -1, 0, true)", "spans(3, LOW, 3, true)",
                    "spans(3, HIGH, 3, true)");
        });
    }

    // ---- 41

    private static void foretell(Edges edges) {
        edges.test(41, "HEIGHT of a DOING, baked by the LAW that law() tells; WORTH by asked().", t -> {
            begun(t);
            t.doing(3, "r2:1");
            t.is("slip(0, 999)", 0);
            t.tells("law(0)", 930, 831);
            t.tells("foretell(0, 0)", 168, 168);
            t.tells("foretell(0, 3)", 168, 168);
            t.doing(3, "r2:2");
            t.tells("foretell(0, 3)", 48, 0);
            t.anew();
            begun(t);
            t.is("slip(0, 0)", 0);
            t.tells("foretell(0, 0)", 48, 0);
        });
        edges.test(41, "BAD; NOTHING: the FLOUR, the DOING; NOUGHT; NOTHING: a SLIP's DOING. (In this order.)", t -> {
            t.bad("foretell(-1, 0)", "foretell(4, 0)", "foretell(0, -1)", "foretell(0, 4)", "foretell(LOW, 0)",
                    "foretell(0, HIGH)");
            t.finds("foretell(0, 0)", Run.NOTHING);
            t.flour(3, "");
            t.finds("foretell(3, 0)", Run.NOTHING);
            t.doing(3, "");
            t.finds("foretell(0, 3)", Run.NOTHING);
            t.finds("foretell(3, 3)", Run.NOUGHT);
            t.finds("foretell(3, 0)", Run.NOTHING);
            t.is("slip(1, 145)", 0);
            t.finds("foretell(3, 3)", Run.NOTHING);
            t.doing(1, "");
            t.tells("foretell(3, 3)", 144, 144);
            t.finds("foretell(3, 0)", Run.NOTHING);
            t.finds("foretell(0, 3)", Run.NOTHING);
            t.bad("foretell(4, 3)", "foretell(3, 4)");
        });
    }
}

/** Edges of promises 26 to 29: which FLOUR and DOING it was, how sprouted, at which place of the OVEN. */
final class EdgeWhy {
    /** On the TABLE WHOLE is STICKY and never tears, TIGHT tears all over in the 7th TURN, WEAK in the 3rd. */
    private static final String WHOLE = "y1t9", TIGHT = "y9s25w4", WEAK = "y9s10";
    private static final String ALL_DONE = "0".repeat(24), ALL_TORN = "1".repeat(24), ALL_STICKY = "2".repeat(24);
    private static final String OUTER_DONE = "000202020202020202020200";

    private EdgeWhy() {
    }

    static void addTo(Edges edges) {
        why(edges);
        alike(edges);
        toItsEnd(edges);
        whyRefused(edges);
        odds(edges);
        oddsRefused(edges);
        sprout(edges);
        rack(edges);
        rackAlike(edges);
        refusedAlike(edges, 28, "sprout", "SPROUT (0 .. 9; else as a FLOUR) by which");
        refusedAlike(edges, 29, "rack", "By how much (-2 .. 2) WARMTH of its place in the OVEN was another one");
    }

    // ---- 26

    private static void why(Edges edges) {
        edges.test(26, "is least UNLIKE a ROW, as 10 times the FLOUR and the DOING; how UNLIKE by asked()", t -> {
            t.flour(3, WHOLE);
            t.doing(3, "");
            t.row(0, ALL_STICKY);
            t.tells("why(0)", 33, 0);
            t.row(5, ALL_DONE);
            t.tells("why(5)", 33, 24);
            t.row(5, "2" + ALL_DONE.substring(1));
            t.tells("why(5)", 33, 23);
            t.row(5, ALL_STICKY.substring(1) + "1");
            t.tells("why(5)", 33, 1);
            t.flour(0, WEAK);
            t.tells("why(5)", 33, 1);
            t.row(5, ALL_TORN);
            t.tells("why(5)", 3, 0);
            t.row(5, "2" + ALL_TORN.substring(1));
            t.tells("why(5)", 3, 1);
        });
    }

    private static void alike(Edges edges) {
        edges.test(26, "the pair (by FLOURS, then DOINGS)", t -> {
            t.flour(1, TIGHT);
            t.flour(2, WHOLE);
            t.doing(1, "r2:1");
            t.doing(3, "");
            t.row(0, ALL_STICKY);
            t.tells("why(0)", 13, 0);
            t.flour(0, WHOLE);
            t.tells("why(0)", 1, 0);
            t.doing(0, "");
            t.tells("why(0)", 0, 0);
        });
    }

    /** TIGHT tears in the 7th TURN: it is 6 of them behind the last STEP. */
    private static void toItsEnd(Edges edges) {
        edges.test(26, "\"To its end\" is to 6 TURNS behind the last STEP (what comes then is done).", t -> {
            t.flour(0, TIGHT);
            t.doing(0, "");
            t.row(0, ALL_STICKY);
            t.tells("why(0)", 0, 0);
            t.doing(0, "r2:1");
            t.tells("why(0)", 0, 24);
            t.flour(0, "y9s25w3");
            t.doing(0, "");
            t.tells("why(0)", 0, 24);
            t.flour(0, "y9s63w0");
            t.doing(0, "r2:8");
            t.tells("why(0)", 0, 0);
            t.doing(0, "r2:8x");
            t.tells("why(0)", 0, 24);
            t.flour(0, "y9s64w0");
            t.tells("why(0)", 0, 0);
        });
    }

    private static void whyRefused(Edges edges) {
        edges.test(26, "BAD; NOTHING: the ROW, no pair", t -> {
            t.bad("why(-1)", "why(6)", "why(LOW)", "why(HIGH)");
            t.finds("why(0)", Run.NOTHING);
            t.row(0, ALL_STICKY);
            t.finds("why(0)", Run.NOTHING);
            t.flour(0, "");
            t.finds("why(0)", Run.NOTHING);
            t.doing(3, "");
            t.tells("why(0)", 3, 0);
            t.finds("why(5)", Run.NOTHING);
            t.anew();
            t.row(0, ALL_STICKY);
            t.doing(0, "");
            t.finds("why(0)", Run.NOTHING);
            t.flour(3, "");
            t.tells("why(0)", 30, 0);
        });
        edges.test(26, "SIZE: not 24", t -> {
            t.flour(0, "");
            t.doing(0, "");
            for (int size : new int[] {0, 23, 25, 40}) {
                t.is("row(1, " + size + ")", size);
                t.finds("why(1)", Run.SIZE);
            }
            t.is("row(1, 24)", 24);
            t.tells("why(1)", 0, 24);
            t.is("row(1, 40)", 40);
            t.is("lay(1, 24, 9)", 1);
            t.is("row(1, 24)", 24);
            t.tells("why(1)", 0, 24);
        });
        edges.test(26, "UNLIKE: not 0 .. 2", t -> {
            t.flour(0, "");
            t.doing(0, "");
            t.is("row(1, 24)", 24);
            for (int wrong : new int[] {-1, 3, Integer.MIN_VALUE, Integer.MAX_VALUE}) {
                t.is("lay(1, 0, " + wrong + ")", 1);
                t.finds("why(1)", Run.UNLIKE);
            }
            t.is("lay(1, 0, 2)", 1);
            t.tells("why(1)", 0, 23);
            t.is("lay(1, 23, 3)", 1);
            t.finds("why(1)", Run.UNLIKE);
            t.is("lay(1, 23, -1)", 1);
            t.finds("why(1)", Run.UNLIKE);
            t.is("lay(1, 23, 0)", 1);
            t.tells("why(1)", 0, 23);
        });
        edges.test(26, "NOTHING: the ROW, no pair; SIZE: not 24; UNLIKE: not 0 .. 2.", t -> {
            t.row(0, "9".repeat(23));
            t.row(1, "9".repeat(24));
            t.finds("why(0)", Run.NOTHING);
            t.finds("why(1)", Run.NOTHING);
            t.flour(0, "");
            t.finds("why(0)", Run.NOTHING);
            t.doing(0, "");
            t.finds("why(0)", Run.SIZE);
            t.finds("why(1)", Run.UNLIKE);
        });
    }

    // ---- 27

    private static void odds(Edges edges) {
        edges.test(27, "The part of pairs that are so least UNLIKE which have a FLOUR", t -> {
            t.row(0, ALL_STICKY);
            t.flour(0, WHOLE);
            t.flour(1, TIGHT);
            t.doing(0, "");
            t.doing(1, "");
            t.doing(2, "r2:1");
            t.doing(3, "r2:1");
            t.parts("odds(0, 0)", 6, 2, 3);
            t.parts("odds(0, 1)", 6, 1, 3);
            t.row(5, ALL_TORN);
            t.parts("odds(5, 1)", 2, 1, 1);
            t.parts("odds(5, 0)", 2, 0, 1);
        });
        edges.test(27, "in lowest terms, the lower number above 0 (0 by 1)", t -> {
            t.row(0, ALL_STICKY);
            t.is("text(0, 0)", 0);
            for (int k = 0; k <= 3; k++) {
                t.flour(k, WHOLE);
                t.is("doing(" + k + ", 0)", 0);
            }
            t.parts("odds(0, 0)", 16, 1, 4);
            t.parts("odds(0, 3)", 16, 1, 4);
            t.flour(3, WEAK);
            t.parts("odds(0, 0)", 12, 1, 3);
            t.parts("odds(0, 3)", 12, 0, 1);
            t.flour(2, WEAK);
            t.parts("odds(0, 1)", 8, 1, 2);
            t.flour(1, WEAK);
            t.parts("odds(0, 0)", 4, 1, 1);
            t.parts("odds(0, 1)", 4, 0, 1);
        });
        edges.test(27, "told by upper(), lower(): how many pairs", t -> {
            t.row(0, ALL_STICKY);
            t.flour(2, WHOLE);
            t.doing(1, "");
            t.parts("odds(0, 2)", 1, 1, 1);
            t.parts("odds(0, 0)", 1, 0, 1);
            t.parts("odds(0, 3)", 1, 0, 1);
            t.row(1, ALL_DONE);
            t.parts("odds(1, 2)", 1, 1, 1);
            t.is("asked()", 0);
        });
    }

    private static void oddsRefused(Edges edges) {
        edges.test(27, "BAD; NOTHING; SIZE; UNLIKE as why().", t -> {
            t.bad("odds(-1, 0)", "odds(6, 0)", "odds(0, -1)", "odds(0, 4)", "odds(LOW, 0)", "odds(0, HIGH)");
            t.finds("odds(0, 0)", Run.NOTHING);
            t.row(0, ALL_STICKY);
            t.row(1, "9".repeat(23));
            t.row(2, "9".repeat(24));
            t.finds("odds(0, 0)", Run.NOTHING);
            t.flour(0, "");
            t.finds("odds(0, 3)", Run.NOTHING);
            t.finds("odds(1, 0)", Run.NOTHING);
            t.doing(0, "");
            t.doing(1, "");
            t.parts("odds(0, 0)", 2, 1, 1);
            t.finds("odds(5, 0)", Run.NOTHING);
            t.finds("odds(1, 0)", Run.SIZE);
            t.finds("odds(2, 0)", Run.UNLIKE);
            t.bad("odds(1, 4)", "odds(2, -1)", "odds(6, 0)");
            t.is("row(1, 25)", 25);
            t.finds("odds(1, 0)", Run.SIZE);
        });
    }

    // ---- 28

    private static void sprout(Edges edges) {
        edges.test(28, "the CUT is least UNLIKE a ROW (of alike ones the least); how UNLIKE by asked()", t -> {
            t.flour(0, WHOLE + "e9");
            t.flour(3, "y9s10e9");
            t.doing(0, "");
            t.doing(3, "o9:30o9:30o9:30");
            t.row(0, ALL_STICKY);
            t.row(5, ALL_DONE);
            t.tells("sprout(0, 0, 0)", 0, 0);
            t.tells("sprout(0, 0, 5)", 0, 24);
            t.tells("sprout(0, 3, 0)", 7, 0);
            t.tells("sprout(0, 3, 5)", 0, 0);
            t.tells("sprout(3, 0, 0)", 0, 24);
            t.tells("about(0, 2)", 9);
        });
        edges.test(28, "(0 .. 9; else as a FLOUR)", t -> {
            t.flour(0, WHOLE + "e0");
            t.flour(1, WHOLE + "e1");
            t.doing(0, "o9:9");
            t.row(0, OUTER_DONE);
            t.row(1, ALL_STICKY);
            t.tells("sprout(1, 0, 0)", 0, 0);
            t.tells("sprout(0, 0, 1)", 1, 0);
            t.tells("sprout(0, 0, 0)", 0, 0);
        });
    }

    // ---- 29: baked by "o7:13", "o8:13", "o9:13" all is STICKY, the OUTER ones are DONE, all is DONE; y9t0s99w9
    // baked by "o0:30" is STICKY, by "o1:30" and warmer ones it has more GAS and tears on the TABLE

    private static void rack(Edges edges) {
        edges.test(29, "(0 .. 9 at last), so that, baked, the CUT is least UNLIKE a ROW", t -> {
            t.flour(0, WHOLE + "e0");
            t.doing(0, "o9:8");
            t.row(0, OUTER_DONE);
            t.tells("rack(0, 0, 0)", 5, 14);
            t.doing(0, "o8:9");
            t.tells("rack(0, 0, 0)", 6, 0);
            t.doing(0, "o7:9");
            t.tells("rack(0, 0, 0)", 7, 0);
            t.doing(0, "o6:9");
            t.tells("rack(0, 0, 0)", 5, 14);
            t.doing(0, "o0:9");
            t.tells("rack(0, 0, 0)", 5, 14);
        });
        edges.test(29, "(0 .. 9 at last)", t -> {
            t.flour(0, "y9t0s99w9");
            t.row(0, ALL_STICKY);
            t.doing(0, "o0:30");
            t.tells("rack(0, 0, 0)", 5, 0);
            t.doing(0, "o1:30");
            t.tells("rack(0, 0, 0)", 4, 0);
            t.doing(0, "o2:30");
            t.tells("rack(0, 0, 0)", 3, 0);
            t.doing(0, "o3:30");
            t.tells("rack(0, 0, 0)", 5, 24);
        });
        edges.test(29, "WARMTH of its place in the OVEN was another one", t -> {
            t.flour(0, WHOLE + "e0");
            t.doing(0, "o8:5r9:1o8:3");
            t.row(0, OUTER_DONE);
            t.tells("rack(0, 0, 0)", 6, 0);
            t.doing(0, "r8:5r8:4");
            t.tells("rack(0, 0, 0)", 5, 14);
        });
        edges.test(29, "told with 5 more; how UNLIKE by asked()", t -> {
            t.flour(0, WHOLE + "e0");
            t.row(0, ALL_STICKY);
            t.row(1, OUTER_DONE);
            t.row(2, ALL_DONE);
            t.doing(0, "o9:13");
            t.tells("rack(0, 0, 0)", 3, 0);
            t.tells("rack(0, 0, 1)", 4, 0);
            t.tells("rack(0, 0, 2)", 5, 0);
            t.doing(0, "o8:13");
            t.tells("rack(0, 0, 0)", 4, 0);
            t.tells("rack(0, 0, 1)", 5, 0);
            t.tells("rack(0, 0, 2)", 6, 0);
            t.doing(0, "o7:13");
            t.tells("rack(0, 0, 0)", 5, 0);
            t.tells("rack(0, 0, 1)", 6, 0);
            t.tells("rack(0, 0, 2)", 7, 0);
        });
    }

    private static void rackAlike(Edges edges) {
        edges.test(29, "(of alike ones 0, then -1, 1, -2, 2)", t -> {
            t.flour(0, WHOLE + "e0");
            t.doing(0, "");
            t.row(0, ALL_DONE);
            t.tells("rack(0, 0, 0)", 5, 24);
            t.doing(0, "o8:13");
            t.row(0, "0200" + "20".repeat(9) + "22");
            t.tells("rack(0, 0, 0)", 4, 12);
            t.row(0, "0202020202020" + "2".repeat(11));
            t.tells("rack(0, 0, 0)", 5, 7);
        });
        edges.test(29, "then -1, 1, -2, 2)", t -> {
            t.flour(0, "y2s92e2");
            t.doing(0, "r2:5o5:15");
            t.row(0, ALL_STICKY);
            t.tells("rack(0, 0, 0)", 3, 0);
            t.row(0, "222221222122212221222122");
            t.tells("rack(0, 0, 0)", 6, 5);
        });
    }

    // ---- what both of them refuse

    private static void refusedAlike(Edges edges, int promise, String name, String sentence) {
        edges.test(promise, sentence, t -> {
            t.bad(name + "(-1, 0, 0)", name + "(4, 0, 0)", name + "(0, -1, 0)", name + "(0, 4, 0)",
                    name + "(0, 0, -1)", name + "(0, 0, 6)", name + "(LOW, 0, 0)", name + "(0, HIGH, 0)");
            t.finds(name + "(0, 0, 0)", Run.NOTHING);
        });
        edges.test(promise, "BAD; NOTHING: any; SIZE; UNLIKE.", t -> {
            t.row(0, "9".repeat(24));
            t.row(1, "9".repeat(23));
            t.row(5, ALL_STICKY);
            t.finds(name + "(0, 0, 0)", Run.NOTHING);
            t.flour(0, WHOLE);
            t.finds(name + "(0, 0, 0)", Run.NOTHING);
            t.doing(3, "");
            t.finds(name + "(0, 0, 0)", Run.NOTHING);
            t.finds(name + "(3, 3, 1)", Run.NOTHING);
            t.finds(name + "(0, 3, 2)", Run.NOTHING);
            t.finds(name + "(0, 3, 1)", Run.SIZE);
            t.finds(name + "(0, 3, 0)", Run.UNLIKE);
            t.is("row(1, 25)", 25);
            t.finds(name + "(0, 3, 1)", Run.SIZE);
            t.is("row(1, 0)", 0);
            t.finds(name + "(0, 3, 1)", Run.SIZE);
            t.bad(name + "(0, 4, 1)", name + "(4, 3, 0)");
            t.is("lay(5, 23, 3)", 1);
            t.finds(name + "(0, 3, 5)", Run.UNLIKE);
            t.is("lay(5, 23, 2)", 1);
            t.tells(name + "(0, 3, 5)", name.equals("rack") ? 5 : 0, 0);
        });
    }
}

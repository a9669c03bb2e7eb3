/** Promises 26 to 36, each with its whole text and ordinary inputs: why it fell, what to change. */
final class ReadWhy {
    /** Baked by "r2:10" the usual FLOUR is STICKY all over, HEIGHT 156, TIGHT TORN all over, SLIGHT STICKY, HEIGHT 132. */
    private static final String TIGHT = "y9s25w4", SLIGHT = "y2";
    /** Never any GAS. OUTER CELLS are DONE by 9 TURNS of o9 and by 12 of o8, if SPROUT is 0; HEIGHT is 120. */
    private static final String BAKES = "y1t9e0";
    private static final String STICKY = "2".repeat(24), TORN = "1".repeat(24);
    private static final String OUTER_DONE = "000202020202020202020200";

    private ReadWhy() {
    }

    static void addTo(Edges read) {
        why(read);
        odds(read);
        sprout(read);
        rack(read);
        change(read);
        changes(read);
        wide(read);
        flours(read);
        begin(read);
        oven(read);
        even(read);
    }

    private static void why(Edges read) {
        read.test(26, "Of all FLOURS and DOINGS that there are the pair (by FLOURS, then DOINGS) whose baked LOAF's CUT is least"
                + " UNLIKE a ROW, as 10 times the FLOUR and the DOING; how UNLIKE by asked(). BAD; NOTHING: the ROW, no pair;"
                + " SIZE: not 24; UNLIKE: not 0 .. 2.", t -> {
            t.row(0, "1111112" + "1".repeat(17));
            t.finds("why(0)", Run.NOTHING);
            t.flour(1, "");
            t.flour(2, TIGHT);
            t.flour(3, BAKES);
            t.doing(0, "r2:10");
            t.doing(2, "r2:10");
            t.doing(3, "o9:9");
            t.tells("why(0)", 20, 1);
            t.row(0, STICKY);
            t.tells("why(0)", 10, 0);
            t.row(0, OUTER_DONE);
            t.tells("why(0)", 33, 0);
            t.bad("why(6)");
            t.finds("why(1)", Run.NOTHING);
            t.row(1, "222");
            t.finds("why(1)", Run.SIZE);
            t.row(1, "2".repeat(23) + "4");
            t.finds("why(1)", Run.UNLIKE);
        });
    }

    private static void odds(Edges read) {
        read.test(27, "The part of pairs that are so least UNLIKE which have a FLOUR, told by upper(), lower(): how many pairs."
                + " BAD; NOTHING; SIZE; UNLIKE as why().", t -> {
            t.flour(0, "");
            t.flour(1, TIGHT);
            t.flour(3, SLIGHT);
            t.doing(0, "r2:10");
            t.doing(1, "");
            t.doing(2, "");
            t.row(0, STICKY);
            t.parts("odds(0, 0)", 8, 3, 8);
            t.parts("odds(0, 1)", 8, 1, 4);
            t.parts("odds(0, 2)", 8, 0, 1);
            t.parts("odds(0, 3)", 8, 3, 8);
            t.row(1, TORN);
            t.parts("odds(1, 1)", 1, 1, 1);
            t.bad("odds(6, 0)", "odds(0, 4)");
            t.finds("odds(2, 0)", Run.NOTHING);
            t.row(2, "21");
            t.finds("odds(2, 0)", Run.SIZE);
            t.row(2, "3".repeat(24));
            t.finds("odds(2, 0)", Run.UNLIKE);
        });
    }

    /** By o9 SET of OUTER CELLS is 7 for each TURN less SPROUT, from the 4th on: 9 TURNS are enough by SPROUT 0 alone. */
    private static void sprout(Edges read) {
        read.test(28, "The SPROUT (0 .. 9; else as a FLOUR) by which, baked by a DOING, the CUT is least UNLIKE a ROW (of alike"
                + " ones the least); how UNLIKE by asked(). BAD; NOTHING: any; SIZE; UNLIKE.", t -> {
            t.flour(1, "y1t9e4");
            t.doing(2, "o9:9");
            t.row(3, OUTER_DONE);
            t.tells("sprout(1, 2, 3)", 0, 0);
            t.row(3, STICKY);
            t.tells("sprout(1, 2, 3)", 1, 0);
            t.row(3, STICKY.substring(1) + "1");
            t.tells("sprout(1, 2, 3)", 1, 1);
            t.tells("about(1, 2)", 4);
            t.bad("sprout(4, 2, 3)");
            t.finds("sprout(0, 2, 3)", Run.NOTHING);
            t.finds("sprout(1, 0, 3)", Run.NOTHING);
            t.finds("sprout(1, 2, 0)", Run.NOTHING);
            t.row(0, "22");
            t.finds("sprout(1, 2, 0)", Run.SIZE);
            t.row(0, "7".repeat(24));
            t.finds("sprout(1, 2, 0)", Run.UNLIKE);
        });
    }

    private static void rack(Edges read) {
        read.test(29, "By how much (-2 .. 2) WARMTH of its place in the OVEN was another one (0 .. 9 at last), so that, baked, the"
                + " CUT is least UNLIKE a ROW (of alike ones 0, then -1, 1, -2, 2), told with 5 more; how UNLIKE by asked()."
                + " BAD; NOTHING: any; SIZE; UNLIKE.", t -> {
            t.flour(1, BAKES);
            t.doing(2, "o8:9");
            t.row(3, OUTER_DONE);
            t.tells("rack(1, 2, 3)", 5 + 1, 0);
            t.row(3, STICKY);
            t.tells("rack(1, 2, 3)", 5, 0);
            t.doing(2, "o9:9");
            t.tells("rack(1, 2, 3)", 5 - 1, 0);
            t.doing(2, "o4:5o5:4");
            t.row(3, TORN);
            t.tells("rack(1, 2, 3)", 5, 24);
            t.bad("rack(1, 2, 6)");
            t.finds("rack(0, 2, 3)", Run.NOTHING);
            t.finds("rack(1, 0, 3)", Run.NOTHING);
            t.finds("rack(1, 2, 0)", Run.NOTHING);
            t.row(0, "22");
            t.finds("rack(1, 2, 0)", Run.SIZE);
            t.row(0, "7".repeat(24));
            t.finds("rack(1, 2, 0)", Run.UNLIKE);
        });
    }

    /** The FLOUR does not tear in 7 TURNS of HEAT 20, in 8 it does: GAS is 49, WORTH 168. */
    private static void change(Edges read) {
        read.test(30, "The CHANGE of the LOAF's DOING by which, baked anew by its FLOUR, WORTH is best (of alike ones the first);"
                + " that by asked(). NONE: there is no CHANGE. STATE.", t -> {
            t.refuses("change()", Run.STATE);
            t.loaf("y9s29w5", "r2:2");
            t.flour(0, "");
            t.doing(0, "k");
            t.tells("change()", 2, 168);
            t.is("go(5)", 5);
            t.tells("change()", 2, 168);
            t.loaf(BAKES, "xo9:8k");
            t.tells("change()", 13, 134);
            t.loaf("", "");
            t.refuses("change()", Run.NONE);
        });
    }

    private static void changes(Edges read) {
        read.test(31, "The two CHANGES, one behind the other (the other one of the DOING that the one makes), by which WORTH is"
                + " best (of alike ones the first), as 100 times the one and the other one; that by asked(). NONE: there are"
                + " none. STATE.", t -> {
            t.refuses("changes()", Run.STATE);
            t.loaf("y9s29w5", "r2:3");
            t.tells("changes()", 202, 168);
            t.loaf(BAKES, "xo9:7");
            t.tells("changes()", 1313, 134);
            t.loaf(BAKES, "do9:8");
            t.tells("changes()", 403, 134);
            t.loaf("", "k");
            t.refuses("changes()", Run.NONE);
        });
    }

    /** The usual FLOUR does not tear in 21 TURNS of HEAT 20. */
    private static void wide(Edges read) {
        read.test(32, "The least n (1 .. 30; as the DOING could be told) of a STEP of the LOAF's DOING by which, baked anew, no CELL"
                + " is TORN; the greatest by asked(). NONE: by none. BAD: not 0 .. 9; STATE; BAD: no such STEP; UNLIKE: no"
                + " REST, no OVEN. (In this order.)", t -> {
            t.bad("wide(10)");
            t.refuses("wide(1)", Run.STATE);
            t.loaf("", "r2:4dr2:5x");
            t.bad("wide(4)", "wide(10)");
            t.finds("wide(1)", Run.UNLIKE);
            t.finds("wide(3)", Run.UNLIKE);
            t.loaf("", "r2:4r2:5");
            t.tells("wide(0)", 1, 21 - 6 - 5);
            t.tells("wide(1)", 1, 21 - 6 - 4);
            t.loaf("", "r2:4r2:15");
            t.refuses("wide(0)", Run.NONE);
        });
    }

    private static void flours(Edges read) {
        read.test(33, "FLOURS (bits) by which a DOING, baked, tears no CELL; those of the best WORTH by asked(). BAD; NOTHING: the"
                + " DOING, no FLOUR.", t -> {
            t.doing(1, "r2:10");
            t.finds("flours(1)", Run.NOTHING);
            t.flour(0, SLIGHT);
            t.flour(1, TIGHT);
            t.tells("flours(1)", 1, 1);
            t.flour(3, "");
            t.tells("flours(1)", 1 + 8, 8);
            t.doing(1, "r2:20");
            t.tells("flours(1)", 1, 1);
            t.finds("flours(0)", Run.NOTHING);
            t.bad("flours(4)");
        });
    }

    /** Of WARMTH 2 all is HEAT 20: n, 3 and 6 TURNS are 21 at most, GAS is 40 by 20 of them. */
    private static void begin(Edges read) {
        read.test(34, "A room of WARMTH w (all REST of the LOAF's DOING are so): the n (1 .. 30; as it could be told) of its first"
                + " REST by which, baked, WORTH is best (of alike ones the least); all TURNS of its STEPS by asked(). BAD;"
                + " STATE; UNLIKE: it has no REST. (n as it was can always be told.)", t -> {
            t.refuses("begin(2)", Run.STATE);
            t.loaf("", "d o2:1");
            t.finds("begin(2)", Run.UNLIKE);
            t.loaf("", "r5:9 r4:3");
            t.tells("begin(2)", 11, 14);
            t.bad("begin(10)");
            t.is("go(4)", 4);
            t.tells("begin(2)", 11, 14);
        });
    }

    private static void oven(Edges read) {
        read.test(35, "Another oven, by off (-2 .. 2) of another WARMTH (0 .. 9 at last): the n (1 .. 30; as it could be told) of"
                + " the last OVEN of the LOAF's DOING by which, baked in that, WORTH is nearest to what it is baked in its own"
                + " (of alike ones the least n); how far by asked(). BAD; STATE; UNLIKE: it has no OVEN.", t -> {
            t.refuses("oven(1)", Run.STATE);
            t.loaf(BAKES, "r3:3");
            t.finds("oven(1)", Run.UNLIKE);
            t.loaf(BAKES, "o9:9r2:1");
            t.tells("oven(-1)", 12, 0);
            t.tells("oven(2)", 9, 0);
            t.loaf(BAKES, "o8:12");
            t.tells("oven(1)", 9, 0);
            t.loaf(BAKES, "o8:11");
            t.tells("oven(1)", 1, 0);
            t.bad("oven(3)");
        });
    }

    /** By 30 TURNS of o9 all is DONE behind any REST; by SPROUT 9 nothing ever is. */
    private static void even(Edges read) {
        read.test(36, "The first REST of the LOAF's DOING of WARMTH 0 .. 9, n 5, 10, .. 30 (as it could be told), by which, baked,"
                + " fewest CELLS are TORN or STICKY (of alike ones by WARMTH, then n), as 100 times WARMTH and n; how many by"
                + " asked(). NONE: it could not be told so. STATE; UNLIKE: it has no REST.", t -> {
            t.refuses("even()", Run.STATE);
            t.loaf(BAKES, "o9:9");
            t.finds("even()", Run.UNLIKE);
            t.loaf(BAKES, "kr3:3o9:30");
            t.tells("even()", 5, 0);
            t.loaf("y1t9e9", "r3:3o9:9");
            t.tells("even()", 5, 24);
            t.loaf(BAKES, "r3:3o9:30o9:30o9:26");
            t.refuses("even()", Run.NONE);
        });
    }
}

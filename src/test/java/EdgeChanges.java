/** Edges of promises 30 to 36: what to change, between what a STEP may be, another room, another oven. */
final class EdgeChanges {
    /** These never have GAS; OUTER CELLS of BAKES are DONE by 9 TURNS of o9, 12 of o8, not by 8 and 11. */
    private static final String WHOLE = "y1t9", BAKES = "y1t9e0", NEVER = "y1t9e9";
    /** GAS of SLOW is 1 for each TURN: HEIGHT is 12 more for each 10 of them. */
    private static final String SLOW = "y1t0s99";
    /** TIGHT tears all over in the 7th TURN of WARMTH 2. */
    private static final String TIGHT = "y9s25w4";

    private EdgeChanges() {
    }

    static void addTo(Edges edges) {
        changeWarmth(edges);
        changeTurns(edges);
        changeLeftOut(edges);
        change(edges);
        changes(edges);
        changesNone(edges);
        wide(edges);
        wideRefused(edges);
        flours(edges);
        begin(edges);
        beginRefused(edges);
        oven(edges);
        ovenAsTold(edges);
        even(edges);
        evenRefused(edges);
        staysAsItIs(edges);
    }

    // ---- 30

    private static void changeWarmth(Edges edges) {
        edges.test(30, "0 w one less, 1 w one more", t -> {
            t.loaf(WHOLE, "r0:1");
            t.tells("change()", 1, 120);
            t.loaf(WHOLE, "r1:1");
            t.tells("change()", 0, 120);
            t.loaf(BAKES, "o8:11");
            t.tells("change()", 1, 120 + 16);
            t.loaf(BAKES, "o9:8");
            t.tells("change()", 3, 120 + 14);
        });
    }

    private static void changeTurns(Edges edges) {
        edges.test(30, "2 n one less, 3 n one more (REST, OVEN", t -> {
            t.loaf(TIGHT, "r2:1");
            t.tells("change()", 0, 144);
            t.loaf(TIGHT, "o2:1");
            t.tells("change()", 0, 144);
            t.loaf("y9s29w5", "r2:2");
            t.tells("change()", 2, 168);
            t.loaf(SLOW, "r2:29r2:4");
            t.tells("change()", 3, 168);
            t.loaf(SLOW, "r2:30r2:3");
            t.tells("change()", 13, 168);
        });
        edges.test(30, "as long as the DOING could be told so", t -> {
            t.loaf(BAKES, "o9:8r0:30r0:30r0:21");
            t.tells("change()", 3, 120 + 14);
            t.loaf(BAKES, "o9:8r0:30r0:30r0:22");
            t.tells("change()", 0, 120);
        });
    }

    private static void changeLeftOut(Edges edges) {
        edges.test(30, "4 left out (KNEAD, KNOCK, DOOR)", t -> {
            t.loaf(WHOLE, "k");
            t.tells("change()", 4, 120);
            t.loaf(WHOLE, "x");
            t.tells("change()", 4, 120);
            t.loaf(WHOLE, "d");
            t.tells("change()", 4, 120);
            t.loaf("", "r2:1".repeat(9) + "k");
            t.tells("change()", 94, 156);
            t.loaf(SLOW, "r2:4kr2:30");
            t.tells("change()", 14, 168);
        });
    }

    private static void change(Edges edges) {
        edges.test(30, "WORTH is best (of alike ones the first); that by asked()", t -> {
            t.loaf(WHOLE, "kxd");
            t.tells("change()", 4, 120);
            t.loaf(WHOLE, "r5:5o5:5");
            t.tells("change()", 0, 120);
            t.loaf("y9s20w0", "r2:9");
            t.is("go(7)", 7);
            t.tells("change()", 0, 0);
        });
        edges.test(30, "NONE: there is no CHANGE. STATE.", t -> {
            t.refuses("change()", Run.STATE);
            t.loaf("", "");
            t.tells("height()", 120, 120);
            t.refuses("change()", Run.NONE);
            t.is("asked()", 120);
        });
    }

    // ---- 31

    private static void changes(Edges edges) {
        edges.test(31, "one behind the other (the other one of the DOING that the one makes)", t -> {
            t.loaf(WHOLE, "dk");
            t.tells("changes()", 404, 120);
            t.loaf(WHOLE, "r0:1");
            t.tells("changes()", 100, 120);
            t.loaf(BAKES, "o9:7");
            t.tells("changes()", 303, 120 + 14);
            t.loaf(BAKES, "o9:8r0:30r0:30r0:22");
            t.tells("changes()", 1203, 120 + 14);
            t.loaf(WHOLE, "kr0:30r0:30r0:30");
            t.tells("changes()", 401, 120);
        });
        edges.test(31, "as 100 times the one and the other one; that by asked()", t -> {
            t.loaf("y9s29w5", "r2:3");
            t.tells("changes()", 202, 168);
            t.loaf(SLOW, "r2:29r2:3");
            t.tells("changes()", 313, 168);
            t.loaf(SLOW, "r2:30r2:2");
            t.tells("changes()", 1313, 168);
            t.loaf(WHOLE, "r5:5");
            t.tells("changes()", 0, 120);
            t.loaf(BAKES, "kkkkkkkkko9:7");
            t.tells("changes()", 9393, 120 + 14);
        });
    }

    private static void changesNone(Edges edges) {
        edges.test(31, "NONE: there are none. STATE.", t -> {
            t.refuses("changes()", Run.STATE);
            t.loaf(WHOLE, "");
            t.refuses("changes()", Run.NONE);
            for (String one : new String[] {"k", "x", "d"}) {
                t.loaf(WHOLE, one);
                t.refuses("changes()", Run.NONE);
            }
            t.loaf(WHOLE, "r0:1");
            t.tells("changes()", 100, 120);
        });
    }

    // ---- 32

    private static void wide(Edges edges) {
        edges.test(32, "The least n (1 .. 30; as the DOING could be told) of a STEP of the LOAF's DOING", t -> {
            t.loaf(WHOLE, "kr2:30r2:30o2:10r2:5");
            t.tells("wide(1)", 1, 30);
            t.tells("wide(3)", 1, 25);
            t.tells("wide(4)", 1, 20);
            t.loaf(WHOLE, "r2:30r2:30r2:30");
            t.tells("wide(2)", 1, 30);
            t.loaf(WHOLE, "r2:30r2:29r2:30o2:1");
            t.tells("wide(3)", 1, 1);
            t.tells("wide(1)", 1, 29);
            t.loaf(WHOLE, "r2:1".repeat(10));
            t.tells("wide(0)", 1, 30);
            t.tells("wide(9)", 1, 30);
        });
        edges.test(32, "by which, baked anew, no CELL is TORN; the greatest by asked(). NONE: by none.", t -> {
            t.loaf("y2t5s99", "r2:9o2:1");
            t.tells("wide(0)", 1, 30);
            t.loaf("y5t5s99", "r2:9o2:1");
            t.tells("wide(0)", 1, 13);
            t.loaf("y9e0s99", "r2:3o9:9");
            t.tells("wide(1)", 13, 30);
            t.loaf("y9s29w5", "r2:9");
            t.tells("wide(0)", 1, 1);
            t.loaf(TIGHT, "r2:9");
            t.refuses("wide(0)", Run.NONE);
            t.is("asked()", 1);
        });
        edges.test(32, "no CELL is TORN; the greatest by asked()", t -> {
            t.loaf("y3s99e0", "r2:8o9:9");
            t.tells("wide(1)", 1, 30);
            int[] turns = {1, 2, 11, 12, 30};
            int[] whole = {1, 0, 0, 1, 1};
            for (int i = 0; i < turns.length; i++) {
                t.doing(1, "r2:8o9:" + turns[i]);
                t.is("flours(1)", whole[i]);
            }
        });
    }

    private static void wideRefused(Edges edges) {
        edges.test(32, "BAD: not 0 .. 9; STATE; BAD: no such STEP; UNLIKE: no REST, no OVEN. (In this order.)", t -> {
            t.bad("wide(-1)", "wide(10)", "wide(LOW)", "wide(HIGH)");
            t.refuses("wide(0)", Run.STATE);
            t.refuses("wide(9)", Run.STATE);
            t.loaf(WHOLE, "");
            t.bad("wide(0)", "wide(9)", "wide(10)", "wide(-1)");
            t.loaf(WHOLE, "kxdr1:1o1:1");
            t.finds("wide(0)", Run.UNLIKE);
            t.finds("wide(1)", Run.UNLIKE);
            t.finds("wide(2)", Run.UNLIKE);
            t.tells("wide(3)", 1, 30);
            t.tells("wide(4)", 1, 30);
            t.bad("wide(5)", "wide(9)", "wide(10)");
        });
        edges.test(32, "no REST, no OVEN", t -> {
            t.loaf(WHOLE, "kkkkkkkkkd");
            t.finds("wide(9)", Run.UNLIKE);
            t.bad("wide(10)");
        });
    }

    // ---- 33

    private static void flours(Edges edges) {
        edges.test(33, "FLOURS (bits) by which a DOING, baked, tears no CELL; those of the best WORTH by asked()", t -> {
            t.is("text(0, 0)", 0);
            t.is("doing(0, 0)", 0);
            t.doing(3, "r2:1");
            t.flour(3, TIGHT);
            t.tells("flours(0)", 8, 8);
            t.tells("flours(3)", 0, 8);
            t.flour(0, TIGHT);
            t.flour(1, TIGHT);
            t.flour(2, TIGHT);
            t.tells("flours(0)", 15, 15);
            t.tells("flours(3)", 0, 15);
            t.flour(1, WHOLE);
            t.tells("flours(3)", 2, 2);
            t.tells("flours(0)", 15, 13);
            t.flour(2, "y9s25w3");
            t.tells("flours(0)", 11, 9);
        });
        edges.test(33, "by which a DOING, baked, tears no CELL", t -> {
            t.flour(0, "y9s63w0");
            String[] doings = {"r2:8", "o2:8", "r2:8x", "r2:8k", "r2:8x", "r2:9", "r4:8", "r2:8"};
            int[] due = {1, 0, 0, 1, 0, 0, 0, 1};
            for (int i = 0; i < doings.length; i++) {
                t.doing(i % 4, doings[i]);
                t.is("flours(" + i % 4 + ")", due[i]);
            }
        });
        edges.test(33, "BAD; NOTHING: the DOING, no FLOUR.", t -> {
            t.bad("flours(-1)", "flours(4)", "flours(LOW)", "flours(HIGH)");
            t.finds("flours(0)", Run.NOTHING);
            t.doing(0, "");
            t.finds("flours(0)", Run.NOTHING);
            t.flour(3, "");
            t.tells("flours(0)", 8, 8);
            t.finds("flours(1)", Run.NOTHING);
            t.finds("flours(3)", Run.NOTHING);
            t.bad("flours(-1)", "flours(4)");
        });
    }

    // ---- 34

    private static void begin(Edges edges) {
        edges.test(34, "WORTH is best (of alike ones the least); all TURNS of its STEPS by asked()", t -> {
            t.loaf(NEVER, "o1:2r5:3r6:4");
            t.tells("begin(0)", 1, 7);
            t.tells("begin(9)", 1, 7);
            t.loaf(SLOW, "r2:1r2:4");
            t.tells("begin(2)", 30, 34);
            t.loaf(SLOW, "r2:1r2:3");
            t.tells("begin(2)", 21, 24);
            t.loaf("y9s29w5", "r9:9");
            t.tells("begin(2)", 1, 1);
        });
        edges.test(34, "(all REST of the LOAF's DOING are so)", t -> {
            t.loaf(SLOW, "r0:3r9:2");
            t.tells("begin(2)", 22, 24);
            t.loaf(SLOW, "o2:1r0:3o2:1r9:2");
            t.tells("begin(2)", 30, 34);
        });
        edges.test(34, "A room of WARMTH w (all REST of the LOAF's DOING are so) ... on the TABLE, of WARMTH 2", t -> {
            t.loaf(BAKES, "r2:1o0:30o0:30o0:20");
            t.tells("begin(9)", 9, 89);
        });
        edges.test(34, "(n as it was can always be told.)", t -> {
            t.loaf(SLOW, "r0:3o0:30o0:30r0:20");
            t.tells("begin(2)", 10, 90);
            t.loaf(SLOW, "r0:3o0:30o0:30r0:21");
            t.tells("begin(2)", 1, 82);
            t.loaf(SLOW, "r0:1o0:30o0:30r0:29");
            t.tells("begin(2)", 1, 90);
        });
    }

    private static void beginRefused(Edges edges) {
        edges.test(34, "BAD; STATE; UNLIKE: it has no REST.", t -> {
            t.bad("begin(-1)", "begin(10)", "begin(LOW)", "begin(HIGH)");
            t.refuses("begin(0)", Run.STATE);
            t.refuses("begin(9)", Run.STATE);
            t.loaf(WHOLE, "");
            t.finds("begin(0)", Run.UNLIKE);
            t.bad("begin(-1)", "begin(10)");
            t.loaf(WHOLE, "ko1:1xd");
            t.finds("begin(9)", Run.UNLIKE);
            t.loaf(NEVER, "ko1:1xdr1:1");
            t.tells("begin(9)", 1, 2);
            t.loaf(NEVER, "ko1:1xd");
            t.finds("begin(9)", Run.UNLIKE);
        });
    }

    // ---- 35

    private static void oven(Edges edges) {
        edges.test(35, "by off (-2 .. 2) of another WARMTH (0 .. 9 at last)", t -> {
            t.loaf(BAKES, "o9:9");
            t.tells("oven(2)", 9, 0);
            t.tells("oven(1)", 9, 0);
            t.tells("oven(0)", 9, 0);
            t.tells("oven(-1)", 12, 0);
            t.tells("oven(-2)", 19, 0);
            t.loaf(BAKES, "o0:9");
            t.tells("oven(-2)", 1, 0);
            t.loaf("y9s99", "o1:9");
            long own = t.take("oven(-1)");
            t.is("oven(-2)", own);
        });
        edges.test(35, "WORTH is nearest to what it is baked in its own (of alike ones the least n); how far by asked()", t -> {
            t.loaf(WHOLE, "o3:5");
            t.tells("oven(-1)", 1, 0);
            t.loaf(BAKES, "o9:9");
            t.tells("oven(-2)", 19, 0);
            t.loaf("y1t9e1", "o9:30");
            t.tells("oven(-2)", 30, 8);
            t.loaf("y1t9e2", "o9:30");
            t.tells("oven(-2)", 1, 24);
        });
        edges.test(35, "Another oven, by off (-2 .. 2) of another WARMTH", t -> {
            t.loaf(BAKES, "o9:5o9:4");
            t.tells("oven(-1)", 7, 0);
            t.loaf(BAKES, "o8:7o8:5");
            t.tells("oven(1)", 2, 0);
        });
        edges.test(35, "the last OVEN of the LOAF's DOING", t -> {
            t.loaf(BAKES, "o2:3r2:1o9:9r2:1");
            t.tells("oven(0)", 9, 0);
            t.loaf(BAKES, "o9:9r2:1o2:3");
            t.tells("oven(0)", 1, 0);
        });
    }

    private static void ovenAsTold(Edges edges) {
        edges.test(35, "the n (1 .. 30; as it could be told) of the last OVEN", t -> {
            t.loaf(BAKES, "o9:9r2:30r2:30r2:18");
            t.tells("oven(-1)", 12, 0);
            t.loaf(BAKES, "o9:9r2:30r2:30r2:19");
            t.tells("oven(-1)", 1, 14);
        });
        edges.test(35, "BAD; STATE; UNLIKE: it has no OVEN.", t -> {
            t.bad("oven(-3)", "oven(3)", "oven(LOW)", "oven(HIGH)");
            t.refuses("oven(-2)", Run.STATE);
            t.refuses("oven(2)", Run.STATE);
            t.loaf(WHOLE, "");
            t.finds("oven(0)", Run.UNLIKE);
            t.bad("oven(-3)", "oven(3)");
            t.loaf(WHOLE, "kr1:1xd");
            t.finds("oven(-2)", Run.UNLIKE);
            t.loaf(WHOLE, "kr1:1xdo1:1o1:1");
            t.tells("oven(2)", 1, 0);
            t.loaf(WHOLE, "kr1:1xd");
            t.finds("oven(2)", Run.UNLIKE);
        });
    }

    // ---- 36

    private static void even(Edges edges) {
        edges.test(36, "of WARMTH 0 .. 9, n 5, 10, .. 30 (as it could be told)", t -> {
            t.loaf("y1t9e5", "r1:1");
            t.tells("even()", 930, 10);
            t.loaf(BAKES, "r1:1r0:30r0:30r0:20");
            t.tells("even()", 910, 10);
            t.loaf(BAKES, "r1:1r0:30r0:30r0:21");
            t.tells("even()", 5, 24);
        });
        edges.test(36, "fewest CELLS are TORN or STICKY (of alike ones by WARMTH, then n)", t -> {
            t.loaf(NEVER, "kr9:9");
            t.tells("even()", 5, 24);
            t.loaf(BAKES, "r9:9o9:30");
            t.tells("even()", 5, 0);
            t.loaf(BAKES, "r1:1");
            t.tells("even()", 725, 0);
            t.loaf("y3s10e0", "r1:1o9:30");
            t.tells("even()", 905, 0);
        });
        edges.test(36, "The first REST of the LOAF's DOING", t -> {
            t.loaf("y1t9e5", "kr1:1r2:1");
            t.tells("even()", 930, 10);
            t.loaf(NEVER, "r1:30r2:1r2:30r2:29");
            t.tells("even()", 5, 24);
            t.loaf(NEVER, "r1:1r2:30r2:30r2:29");
            t.refuses("even()", Run.NONE);
        });
    }

    private static void evenRefused(Edges edges) {
        edges.test(36, "NONE: it could not be told so.", t -> {
            t.loaf(WHOLE, "r1:1r2:30r2:30r2:25");
            t.tells("even()", 5, 24);
            t.loaf(WHOLE, "r1:1r2:30r2:30r2:26");
            t.refuses("even()", Run.NONE);
            t.is("asked()", 24);
            t.loaf(WHOLE, "r1:4r2:30r2:30r2:26");
            t.refuses("even()", Run.NONE);
        });
        edges.test(36, "STATE; UNLIKE: it has no REST.", t -> {
            t.refuses("even()", Run.STATE);
            t.loaf(WHOLE, "");
            t.finds("even()", Run.UNLIKE);
            t.loaf(WHOLE, "ko1:1xd");
            t.finds("even()", Run.UNLIKE);
            t.loaf(NEVER, "ko1:1xdr1:1");
            t.tells("even()", 5, 24);
            t.loaf(NEVER, "ko1:1xd");
            t.finds("even()", Run.UNLIKE);
        });
    }

    // ---- all of them

    private static void staysAsItIs(Edges edges) {
        edges.test(30, "gone on to its end; the LOAF stays as it is", t -> {
            t.loaf("y9s60", "r2:3xr2:1ko5:5");
            t.is("go(3)", 3);
            t.is("cut(0)", 0);
            t.is("slip(0, 100)", 0);
            long before = t.take("digest()");
            for (String call : new String[] {"why(0)", "odds(0, 0)", "sprout(0, 0, 0)", "rack(0, 0, 0)", "change()",
                "changes()", "wide(0)", "flours(0)", "begin(5)", "oven(1)", "even()", "law(0)",
                "spans(0, 9, 0, true)", "foretell(0, 0)"}) {
                t.take(call);
                t.is("digest()", before);
            }
            t.is("go(1)", 4);
            t.cellIs(0, 21 - 5 + 7, 56, 20, 0, 0);
        });
    }
}

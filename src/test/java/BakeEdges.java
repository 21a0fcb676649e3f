/** The edges of promises 8 (bake) and 12 (fire), and of the rule that each BAKE is done by. */
final class BakeEdges {
    private static final int[] NO_HEATS = {-1, 401, House.LOW, House.HIGH};

    private BakeEdges() {
    }

    static void run(Edges edges) {
        edges.edge(8, "BAKE (of a heat, whether it is DONE). DOUGH: CRUST is (heat + AIR) / 10 more", BakeEdges::tenth);
        edges.edge(8, "DONE is a CRUST of 20 or more", BakeEdges::doneAtTwenty);
        edges.edge(8, "RYE: UNDER of heat less 30", BakeEdges::rye);
        edges.edge(8, "SWEET: UNDER, and CRUST is 60 or less", BakeEdges::sweet);
        edges.edge(8, "SOUR: UNDER, or ACID is above 5 (UNDER is asked in any case)", BakeEdges::sour);
        edges.edge(8, "FLAT: UNDER of twice the heat", BakeEdges::flat);
        edges.edge(8, "All divisions are cut toward 0", BakeEdges::cutTowardNought);
        edges.edge(8, "BAKE of a heat (0 .. 400): 1, 0", BakeEdges::heats);
        edges.edge(8, "UNKNOWN", BakeEdges::unknown);
        edges.edge(8, "OUTSIDE", BakeEdges::outside);
        edges.edge(12, "A fire: what lies in THE OVEN, SHELF by SHELF, PLACE by PLACE, is BAKED by a heat (0 .. 400",
            BakeEdges::fire);
        edges.edge(12, "who lies in two PLACES twice)", BakeEdges::fireTwice);
        edges.edge(12, "in how many PLACES it was DONE", BakeEdges::fireDone);
        edges.edge(12, "OUTSIDE", BakeEdges::fireOutside);
    }

    /** The CRUST of a new loaf of a kind, baked once. */
    private static int crust(int kind, int heat) {
        BakeHouse x = House.with(kind, 5);
        x.bake(0, heat);
        return x.tell(0, House.CRUST);
    }

    private static void tenth(Due due) {
        int[][] tenths = {{0, 0}, {9, 0}, {10, 1}, {19, 1}, {20, 2}, {399, 39}, {400, 40}};
        for (int kind : new int[] {House.DOUGH, House.LEAVENED, House.SWEET, House.BRIOCHE}) {
            due.pairs("CRUST of KIND " + kind + ", baked by ?", tenths, heat -> crust(kind, heat));
        }
        BakeHouse x = House.with(House.DOUGH, 5);
        x.rest(0, 30);
        x.bake(0, 4);
        due.answer("CRUST of heat 4 and AIR 5", 0, () -> x.tell(0, House.CRUST));
        x.bake(0, 5);
        due.answer("CRUST of heat 5 and AIR 5: they are put together, and then cut", 1, () -> x.tell(0, House.CRUST));
        x.rest(0, 600);
        x.bake(0, 400);
        due.answer("CRUST, 50 more by the most heat and the most AIR", 51, () -> x.tell(0, House.CRUST));
        due.answer("AIR, as it was", 100, () -> x.tell(0, House.AIR));
    }

    private static void doneAtTwenty(Due due) {
        due.pairs("bake(0, ?) of a new DOUGH", new int[][] {{0, 0}, {190, 0}, {199, 0}, {200, 1}, {400, 1}},
            heat -> House.with(House.DOUGH, 5).bake(0, heat));
        BakeHouse x = House.with(House.DOUGH, 5);
        x.bake(0, 199);
        due.answer("bake(0, 9) of CRUST 19", 0, () -> x.bake(0, 9));
        due.answer("bake(0, 10) of CRUST 19", 1, () -> x.bake(0, 10));
        due.answer("bake(0, 0) of CRUST 20", 1, () -> x.bake(0, 0));
        x.bake(0, 400);
        due.answer("bake(0, 10) of CRUST 60, which has no most for a DOUGH", 1, () -> x.bake(0, 10));
    }

    private static void rye(Due due) {
        int[][] crusts = {{0, -3}, {10, -2}, {11, -1}, {20, -1}, {21, 0}, {30, 0}, {39, 0}, {40, 1}, {229, 19},
            {230, 20}, {400, 37}};
        for (int kind : new int[] {House.RYE, House.SOUR, House.LEVAIN}) {
            due.pairs("CRUST of KIND " + kind + ", baked by ?", crusts, heat -> crust(kind, heat));
            due.pairs("bake(0, ?) of a new one of it", new int[][] {{229, 0}, {230, 1}},
                heat -> House.with(kind, 5).bake(0, heat));
        }
        BakeHouse x = House.with(House.RYE, 5);
        x.rest(0, 252);
        x.bake(0, 18);
        due.answer("CRUST of heat 18 and AIR 21, 9 in all", 0, () -> x.tell(0, House.CRUST));
        x.bake(0, 19);
        due.answer("CRUST of heat 19 and AIR 21, 10 in all", 1, () -> x.tell(0, House.CRUST));
        BakeHouse raw = House.with(House.RYE, 5);
        raw.bake(0, 0);
        due.answer("bake(0, 0) of CRUST -3", 0, () -> raw.bake(0, 0));
        due.answer("CRUST, which has no least", -6, () -> raw.tell(0, House.CRUST));
        BakeHouse back = House.with(House.RYE, 5);
        due.answer("bake(0, 230)", 1, () -> back.bake(0, 230));
        due.answer("bake(0, 20), which takes 1 off", 0, () -> back.bake(0, 20));
        due.answer("CRUST", 19, () -> back.tell(0, House.CRUST));
    }

    private static void sweet(Due due) {
        for (int kind : new int[] {House.SWEET, House.BRIOCHE}) {
            BakeHouse x = House.with(kind, 5);
            due.answer("bake(0, 199) of KIND " + kind, 0, () -> x.bake(0, 199));
            due.answer("bake(0, 10), to CRUST 20", 1, () -> x.bake(0, 10));
            due.answer("bake(0, 390), to CRUST 59", 1, () -> x.bake(0, 390));
            due.answer("bake(0, 10), to CRUST 60", 1, () -> x.bake(0, 10));
            due.answer("bake(0, 9), still CRUST 60", 1, () -> x.bake(0, 9));
            due.answer("bake(0, 10), to CRUST 61", 0, () -> x.bake(0, 10));
            due.answer("bake(0, 0), still CRUST 61", 0, () -> x.bake(0, 0));
            due.answer("CRUST", 61, () -> x.tell(0, House.CRUST));
        }
    }

    private static void sour(Due due) {
        for (int kind : new int[] {House.SOUR, House.LEVAIN}) {
            BakeHouse x = House.with(kind, 5);
            for (int i = 0; i < 5; i++) {
                x.rest(0, 0);
            }
            due.answer("bake(0, 30) of KIND " + kind + " and ACID 5", 0, () -> x.bake(0, 30));
            x.rest(0, 0);
            due.answer("bake(0, 30) of ACID 6", 1, () -> x.bake(0, 30));
            due.answer("bake(0, 0) of ACID 6", 1, () -> x.bake(0, 0));
            due.answer("CRUST: UNDER was asked", -3, () -> x.tell(0, House.CRUST));
            due.same("its latest rules", "30 32 34", x.book(0) + " " + x.book(1) + " " + x.book(2));
            x.fold(0);
            due.answer("bake(0, 30) of ACID 5 again", 0, () -> x.bake(0, 30));
            due.answer("bake(0, 259), to CRUST 19", 0, () -> x.bake(0, 259));
            due.answer("bake(0, 40), to CRUST 20", 1, () -> x.bake(0, 40));
            x.bake(0, 400);
            x.bake(0, 400);
            due.answer("bake(0, 30) of CRUST 94, which is no SWEET's", 1, () -> x.bake(0, 30));
        }
        BakeHouse rye = House.with(House.RYE, 5);
        for (int i = 0; i < 6; i++) {
            rye.rest(0, 0);
        }
        due.answer("bake(0, 30) of a RYE, which has no ACID", 0, () -> rye.bake(0, 30));
    }

    private static void flat(Due due) {
        due.pairs("CRUST of a FLAT, baked by ?", new int[][] {{0, 0}, {4, 0}, {5, 1}, {9, 1}, {10, 2}, {99, 19},
            {100, 20}, {399, 79}, {400, 80}}, heat -> crust(House.FLAT, heat));
        due.pairs("bake(0, ?) of a new FLAT", new int[][] {{99, 0}, {100, 1}, {400, 1}},
            heat -> House.with(House.FLAT, 5).bake(0, heat));
        BakeHouse x = House.with(House.FLAT, 5);
        x.rest(0, 30);
        x.bake(0, 2);
        due.answer("CRUST of heat 2 and AIR 5, which is not doubled", 0, () -> x.tell(0, House.CRUST));
        x.bake(0, 3);
        due.answer("CRUST of heat 3 and AIR 5", 1, () -> x.tell(0, House.CRUST));
    }

    private static void cutTowardNought(Due due) {
        due.pairs("CRUST of a RYE, baked by ?, of -9, -10, -11, -19, -20", new int[][] {{21, 0}, {20, -1}, {19, -1},
            {11, -1}, {10, -2}}, heat -> crust(House.RYE, heat));
        BakeHouse flat = House.with(House.FLAT, 5);
        flat.shelf(0, 1);
        due.pairs("lay(0, 0, ?) of a FLAT", new int[][] {{-1, 1}, {0, 1}, {1, 1}}, place -> flat.lay(0, 0, place));
        due.thrown("lay(0, 0, -2) of a FLAT", ArrayIndexOutOfBoundsException.class, House.TEXT_PLACE,
            () -> flat.lay(0, 0, -2));
        due.answer("rest(0, 5)", 0, () -> House.with(House.DOUGH, 5).rest(0, 5));
        due.answer("rest(0, 11) of a RYE", 0, () -> House.with(House.RYE, 5).rest(0, 11));
        due.answer("worth(0) of MASS 9", 0, () -> House.with(House.DOUGH, 9).worth(0));
        due.answer("cost(0) of WORTH 9", 9, () -> House.with(House.SOUR, 99).cost(0));
    }

    private static void heats(Due due) {
        BakeHouse x = House.with(House.DOUGH, 5);
        due.pairs("bake(0, ?)", new int[][] {{-1, BakeHouse.OUTSIDE}, {0, 0}, {1, 0}, {399, 1}, {400, 1},
            {401, BakeHouse.OUTSIDE}}, heat -> x.bake(0, heat));
        due.answer("CRUST", 79, () -> x.tell(0, House.CRUST));
        due.same("THE BOOK, with the four that were not refused", "30 30 30 30", House.book(x));
    }

    private static void unknown(Due due) {
        BakeHouse x = House.with(House.FLAT, 5);
        due.unchanged(x, () -> {
            due.each("bake(?, 0)", BakeHouse.UNKNOWN, House.NO_LOAVES, loaf -> x.bake(loaf, 0));
            due.each("bake(?, 400)", BakeHouse.UNKNOWN, House.NO_LOAVES, loaf -> x.bake(loaf, 400));
            due.each("bake(?, 401), ahead of OUTSIDE", BakeHouse.UNKNOWN, House.NO_LOAVES, loaf -> x.bake(loaf, 401));
            due.each("bake(?, -1), ahead of OUTSIDE", BakeHouse.UNKNOWN, House.NO_LOAVES, loaf -> x.bake(loaf, -1));
        });
    }

    private static void outside(Due due) {
        for (int kind = House.DOUGH; kind <= House.LEVAIN; kind++) {
            BakeHouse x = House.with(kind, 5);
            due.unchanged(x, () -> due.each("bake(0, ?)", BakeHouse.OUTSIDE, NO_HEATS, heat -> x.bake(0, heat)));
        }
    }

    private static void fire(Due due) {
        BakeHouse empty = House.with(House.DOUGH, 5);
        due.answer("fire(400) with all SHELVES out", 0, () -> empty.fire(400));
        empty.shelf(0, 0);
        empty.shelf(1, 8);
        due.answer("fire(400) with empty SHELVES", 0, () -> empty.fire(400));
        due.answer("count(1): nothing was baked", 0, () -> empty.count(House.RULES));

        BakeHouse x = House.with(House.RYE, 5);
        x.loaf(House.SWEET, 5);
        x.loaf(House.FLAT, 5);
        x.loaf(House.DOUGH, 5);
        x.shelf(3, 8);
        x.shelf(0, 8);
        x.lay(0, 3, 7);
        x.lay(1, 3, 0);
        x.lay(2, 0, 15);
        x.lay(3, 0, 0);
        due.answer("fire(0), the least", 0, () -> x.fire(0));
        due.same("THE BOOK, what lies last first", "30 32 30 33 30 36 30 20 20 26 20 20", House.book(x));
        due.answer("fire(400), the most", 4, () -> x.fire(400));
        due.pairs("CRUST of LOAF ?", new int[][] {{0, 34}, {1, 40}, {2, 80}, {3, 40}}, loaf -> x.tell(loaf, House.CRUST));
        x.out(0);
        due.answer("fire(100), with a SHELF out", 2, () -> x.fire(100));
        due.pairs("CRUST of LOAF ?", new int[][] {{0, 41}, {1, 50}, {2, 80}, {3, 40}}, loaf -> x.tell(loaf, House.CRUST));
        due.same("shelf 3, where all lie as they lay", "8: 1 -1 -1 -1 -1 -1 -1 0", House.shelf(x, 3));
    }

    private static void fireTwice(Due due) {
        BakeHouse x = House.with(House.BRIOCHE, 5);
        x.loaf(House.DOUGH, 5);
        x.shelf(0, 2);
        x.shelf(2, 1);
        x.shelf(3, 1);
        x.lay(0, 0, 0);
        x.lay(1, 2, 0);
        x.lay(1, 3, 0);
        due.answer("fire(100), where each is DONE the second time", 2, () -> x.fire(100));
        due.answer("CRUST of the one in two PLACES of a SHELF", 20, () -> x.tell(0, House.CRUST));
        due.answer("CRUST of the one on two SHELVES", 20, () -> x.tell(1, House.CRUST));
        BakeHouse full = House.with(House.DOUGH, 5);
        for (int k = 0; k < 4; k++) {
            full.shelf(k, 8);
            for (int place = 0; place < 8; place++) {
                full.lay(0, k, place);
            }
        }
        due.answer("fire(10) of a full oven, DONE from the 20th PLACE on", 13, () -> full.fire(10));
        due.answer("CRUST", 32, () -> full.tell(0, House.CRUST));
    }

    private static void fireDone(Due due) {
        BakeHouse x = House.with(House.DOUGH, 5);
        x.loaf(House.DOUGH, 5);
        x.loaf(House.SWEET, 5);
        x.shelf(0, 8);
        x.lay(0, 0, 0);
        x.lay(1, 0, 1);
        x.lay(2, 0, 2);
        due.answer("fire(199), where none is DONE", 0, () -> x.fire(199));
        due.answer("fire(10), where all are DONE at CRUST 20", 3, () -> x.fire(10));
        due.answer("fire(400), where all are DONE at CRUST 60", 3, () -> x.fire(400));
        due.answer("fire(10), where the SWEET is no longer DONE", 2, () -> x.fire(10));
        x.shelf(0, 8);
        due.answer("fire(400), where none lies", 0, () -> x.fire(400));
    }

    private static void fireOutside(Due due) {
        BakeHouse x = House.with(House.DOUGH, 5);
        x.shelf(0, 1);
        x.lay(0, 0, 0);
        due.unchanged(x, () -> due.each("fire(?)", BakeHouse.OUTSIDE, NO_HEATS, x::fire));
        due.answer("fire(401) of an empty oven", BakeHouse.OUTSIDE, () -> new BakeHouse().fire(401));
    }
}

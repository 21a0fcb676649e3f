/** The edges of promises 3 (shelf), 4 (out), 14 (at) and 15 (places). */
final class OvenEdges {
    private static final Class<NegativeArraySizeException> SIZE = NegativeArraySizeException.class;

    private OvenEdges() {
    }

    static void run(Edges edges) {
        edges.edge(3, "THE OVEN has SHELVES 0 .. 3", OvenEdges::fourShelves);
        edges.edge(3, "each out (at first), or in with 0 to 8 PLACES", OvenEdges::noneToEight);
        edges.edge(3, "A SHELF comes in with n empty PLACES (in place of the one that was in)", OvenEdges::comesIn);
        edges.edge(3, "how many it has", OvenEdges::howMany);
        edges.edge(3, "OUTSIDE: the SHELF, n above 8", OvenEdges::shelfOutside);
        edges.edge(3, "NegativeArraySizeException: n is below 0 (what was in stays in)", OvenEdges::belowNone);
        edges.edge(4, "A SHELF goes out: 1, 0: it was out", OvenEdges::goesOut);
        edges.edge(4, "OUTSIDE", OvenEdges::outOutside);
        edges.edge(14, "in each of which a LOAF lies, or none", OvenEdges::loafOrNone);
        edges.edge(14, "What lies in a PLACE of a SHELF: the LOAF", OvenEdges::whatLies);
        edges.edge(14, "NONE: none, no such PLACE, or the SHELF is out", OvenEdges::nothingLies);
        edges.edge(14, "OUTSIDE: the SHELF", OvenEdges::atOutside);
        edges.edge(15, "How many PLACES a SHELF has", OvenEdges::placesOfEach);
        edges.edge(15, "NONE: it is out", OvenEdges::placesOut);
        edges.edge(15, "OUTSIDE", OvenEdges::placesOutside);
    }

    private static void fourShelves(Due due) {
        BakeHouse x = new BakeHouse();
        due.pairs("shelf(?, 2)", new int[][] {{-1, BakeHouse.OUTSIDE}, {0, 2}, {3, 2}, {4, BakeHouse.OUTSIDE}},
            k -> x.shelf(k, 2));
        due.pairs("places(?)", new int[][] {{0, 2}, {1, BakeHouse.NONE}, {2, BakeHouse.NONE}, {3, 2}}, x::places);
    }

    private static void noneToEight(Due due) {
        BakeHouse x = House.with(House.DOUGH, 5);
        due.answer("places(0), at first", BakeHouse.NONE, () -> x.places(0));
        due.answer("shelf(0, 0)", 0, () -> x.shelf(0, 0));
        due.answer("places(0), in with no PLACES, and so not out", 0, () -> x.places(0));
        due.answer("at(0, 0) of it", BakeHouse.NONE, () -> x.at(0, 0));
        due.answer("shelf(0, 8)", 8, () -> x.shelf(0, 8));
        due.answer("lay(0, 0, 7), the last PLACE", 1, () -> x.lay(0, 0, 7));
        due.answer("shelf(0, 9)", BakeHouse.OUTSIDE, () -> x.shelf(0, 9));
        due.same("shelf 0 behind it", "8: -1 -1 -1 -1 -1 -1 -1 0", House.shelf(x, 0));
    }

    private static void comesIn(Due due) {
        BakeHouse x = House.with(House.DOUGH, 5);
        x.shelf(1, 8);
        for (int place = 0; place < 8; place++) {
            x.lay(0, 1, place);
        }
        x.shelf(2, 1);
        x.lay(0, 2, 0);
        due.answer("shelf(1, 3), a smaller one", 3, () -> x.shelf(1, 3));
        due.same("shelf 1, all empty", "3: -1 -1 -1", House.shelf(x, 1));
        x.lay(0, 1, 2);
        due.answer("shelf(1, 8), a larger one", 8, () -> x.shelf(1, 8));
        due.same("shelf 1, all empty", "8: -1 -1 -1 -1 -1 -1 -1 -1", House.shelf(x, 1));
        x.lay(0, 1, 7);
        due.answer("shelf(1, 8), one as large", 8, () -> x.shelf(1, 8));
        due.same("shelf 1, all empty", "8: -1 -1 -1 -1 -1 -1 -1 -1", House.shelf(x, 1));
        due.answer("shelf(1, 0), one of no PLACES", 0, () -> x.shelf(1, 0));
        due.same("shelf 1", "0:", House.shelf(x, 1));
        due.same("shelf 2, which is another", "1: 0", House.shelf(x, 2));
        due.answer("lay(0, 2, 0), which lies nowhere else", 1, () -> x.lay(0, 2, 0));
    }

    private static void howMany(Due due) {
        BakeHouse x = new BakeHouse();
        for (int k = 0; k < 4; k++) {
            int shelf = k;
            due.pairs("shelf(" + k + ", ?)", new int[][] {{8, 8}, {7, 7}, {1, 1}, {0, 0}}, n -> x.shelf(shelf, n));
        }
    }

    private static void shelfOutside(Due due) {
        BakeHouse x = House.with(House.DOUGH, 5);
        x.shelf(0, 2);
        x.lay(0, 0, 1);
        due.unchanged(x, () -> {
            due.each("shelf(?, 1)", BakeHouse.OUTSIDE, House.NO_SHELVES, k -> x.shelf(k, 1));
            due.each("shelf(0, ?)", BakeHouse.OUTSIDE, new int[] {9, 10, House.HIGH}, n -> x.shelf(0, n));
            due.each("shelf(3, ?), which is out", BakeHouse.OUTSIDE, new int[] {9, House.HIGH}, n -> x.shelf(3, n));
            due.each("shelf(?, 9)", BakeHouse.OUTSIDE, House.NO_SHELVES, k -> x.shelf(k, 9));
            due.each("shelf(?, -1), ahead of what it throws", BakeHouse.OUTSIDE, House.NO_SHELVES, k -> x.shelf(k, -1));
        });
    }

    private static void belowNone(Due due) {
        BakeHouse x = House.with(House.DOUGH, 5);
        x.shelf(0, 2);
        x.lay(0, 0, 1);
        due.unchanged(x, () -> {
            for (int n : new int[] {-1, -8, House.LOW}) {
                due.thrown("shelf(0, " + n + "), which is in", SIZE, House.TEXT_SIZE, () -> x.shelf(0, n));
                due.thrown("shelf(3, " + n + "), which is out", SIZE, House.TEXT_SIZE, () -> x.shelf(3, n));
            }
        });
        due.answer("places(3), out as it was", BakeHouse.NONE, () -> x.places(3));
        due.answer("at(0, 1), in as it was", 0, () -> x.at(0, 1));
        due.answer("shelf(0, 0), the least that comes in", 0, () -> x.shelf(0, 0));
    }

    private static void goesOut(Due due) {
        BakeHouse x = House.with(House.DOUGH, 5);
        due.each("out(?), at first", 0, new int[] {0, 3}, x::out);
        x.shelf(0, 8);
        x.shelf(3, 0);
        x.lay(0, 0, 7);
        due.answer("out(3), in with no PLACES", 1, () -> x.out(3));
        due.answer("out(3) again", 0, () -> x.out(3));
        due.answer("places(0), which is another", 8, () -> x.places(0));
        due.answer("out(0)", 1, () -> x.out(0));
        due.answer("out(0) again", 0, () -> x.out(0));
        due.answer("at(0, 7)", BakeHouse.NONE, () -> x.at(0, 7));
        due.answer("fire(400)", 0, () -> x.fire(400));
        due.answer("CRUST of the LOAF that went out with it", 0, () -> x.tell(0, House.CRUST));
        x.shelf(0, 8);
        due.answer("at(0, 7), in again", BakeHouse.NONE, () -> x.at(0, 7));
    }

    private static void outOutside(Due due) {
        BakeHouse x = House.with(House.DOUGH, 5);
        x.shelf(0, 2);
        x.shelf(3, 2);
        due.unchanged(x, () -> due.each("out(?)", BakeHouse.OUTSIDE, House.NO_SHELVES, x::out));
    }

    private static void loafOrNone(Due due) {
        BakeHouse x = House.with(House.DOUGH, 5);
        x.loaf(House.RYE, 5);
        x.shelf(0, 3);
        due.same("shelf 0, empty", "3: -1 -1 -1", House.shelf(x, 0));
        x.lay(0, 0, 0);
        due.same("shelf 0, with LOAF 0, which is not NONE", "3: 0 -1 -1", House.shelf(x, 0));
        x.lay(1, 0, 2);
        x.lay(1, 0, 1);
        due.same("shelf 0, full", "3: 0 1 1", House.shelf(x, 0));
    }

    private static void whatLies(Due due) {
        BakeHouse x = new BakeHouse();
        for (int i = 0; i < 20; i++) {
            x.loaf(House.DOUGH, 5);
        }
        x.shelf(0, 8);
        x.shelf(3, 8);
        x.lay(0, 0, 0);
        x.lay(19, 3, 7);
        due.answer("at(0, 0), the first LOAF in the first PLACE", 0, () -> x.at(0, 0));
        due.answer("at(3, 7), the last LOAF in the last PLACE", 19, () -> x.at(3, 7));
        x.lay(7, 3, 7);
        due.answer("at(3, 7), the one that lies there now", 7, () -> x.at(3, 7));
    }

    private static void nothingLies(Due due) {
        BakeHouse x = House.with(House.DOUGH, 5);
        x.shelf(0, 2);
        x.shelf(1, 0);
        x.lay(0, 0, 0);
        due.unchanged(x, () -> {
            due.answer("at(0, 1), where none lies", BakeHouse.NONE, () -> x.at(0, 1));
            due.each("at(0, ?)", BakeHouse.NONE, new int[] {-1, 2, 7, 8, House.LOW, House.HIGH}, place -> x.at(0, place));
            due.each("at(1, ?), of no PLACES", BakeHouse.NONE, new int[] {-1, 0, 8}, place -> x.at(1, place));
            due.each("at(2, ?), out", BakeHouse.NONE, new int[] {-1, 0, 8, House.LOW, House.HIGH}, place -> x.at(2, place));
        });
    }

    private static void atOutside(Due due) {
        BakeHouse x = House.with(House.DOUGH, 5);
        x.shelf(0, 1);
        x.lay(0, 0, 0);
        due.unchanged(x, () -> {
            due.each("at(?, 0)", BakeHouse.OUTSIDE, House.NO_SHELVES, k -> x.at(k, 0));
            due.each("at(?, -1)", BakeHouse.OUTSIDE, House.NO_SHELVES, k -> x.at(k, -1));
        });
    }

    private static void placesOfEach(Due due) {
        BakeHouse x = new BakeHouse();
        x.shelf(0, 8);
        x.shelf(1, 0);
        x.shelf(2, 1);
        x.shelf(3, 7);
        due.pairs("places(?)", new int[][] {{0, 8}, {1, 0}, {2, 1}, {3, 7}}, x::places);
        x.shelf(0, 1);
        due.answer("places(0), of the one in its place", 1, () -> x.places(0));
    }

    private static void placesOut(Due due) {
        BakeHouse x = new BakeHouse();
        x.shelf(3, 0);
        due.pairs("places(?)", new int[][] {{2, BakeHouse.NONE}, {3, 0}}, x::places);
        x.out(3);
        due.answer("places(3), out again", BakeHouse.NONE, () -> x.places(3));
    }

    private static void placesOutside(Due due) {
        BakeHouse x = new BakeHouse();
        x.shelf(0, 1);
        x.shelf(3, 1);
        due.unchanged(x, () -> due.each("places(?)", BakeHouse.OUTSIDE, House.NO_SHELVES, x::places));
    }
}

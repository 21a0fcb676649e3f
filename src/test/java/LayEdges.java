/** The edges of promise 7 (lay), and of the rule that each LAY is done by. */
final class LayEdges {
    private static final Class<NullPointerException> NULL = NullPointerException.class;
    private static final Class<ArrayIndexOutOfBoundsException> INDEX = ArrayIndexOutOfBoundsException.class;

    private LayEdges() {
    }

    static void run(Edges edges) {
        edges.edge(7, "But where a RULE names an ACT (and not UNDER), that is the ACT of the LOAF's own KIND",
            LayEdges::ownFold);
        edges.edge(7, "a LOAF may lie in more than one PLACE", LayEdges::manyPlaces);
        edges.edge(7, "LAY (of a SHELF and a PLACE). DOUGH: NULL, if the SHELF is out", LayEdges::shelfOut);
        edges.edge(7, "INDEX, if it has no such PLACE (both of the machine)", LayEdges::noSuchPlace);
        edges.edge(7, "else the LOAF lies there, in place of what lay there", LayEdges::inPlace);
        edges.edge(7, "BRIOCHE: UNDER; then UNDER of the PLACE behind it", LayEdges::brioche);
        edges.edge(7, "FLAT: UNDER of PLACE / 2, which is cut toward 0", LayEdges::flat);
        edges.edge(7, "LEVAIN: FOLD, then UNDER", LayEdges::levain);
        edges.edge(7, "LAY onto a SHELF and a PLACE (any number)", LayEdges::anyNumber);
        edges.edge(7, "in how many PLACES it lies then", LayEdges::howMany);
        edges.edge(7, "UNKNOWN", LayEdges::unknown);
        edges.edge(7, "OUTSIDE: the SHELF", LayEdges::outside);
        edges.edge(7, "NullPointerException: NULL", LayEdges::thrownNull);
        edges.edge(7, "ArrayIndexOutOfBoundsException: INDEX", LayEdges::thrownIndex);
    }

    /** A LEVAIN's own FOLD is done by SOUR's rule; that of DOUGH, which tells LAY, would leave ACID and row 14 out. */
    private static void ownFold(Due due) {
        BakeHouse x = House.with(House.LEVAIN, 5);
        x.rest(0, 0);
        x.rest(0, 0);
        x.shelf(0, 1);
        due.answer("lay(0, 0, 0)", 1, () -> x.lay(0, 0, 0));
        due.same("its state, folded as a SOUR is", "0 1 1 0", House.state(x, 0));
        due.same("THE BOOK", "20 10 14 27 0 2 4 7 0 2 4 7", House.book(x));
    }

    private static void manyPlaces(Due due) {
        BakeHouse x = House.with(House.DOUGH, 5);
        for (int k = 0; k < 4; k++) {
            int shelf = k;
            x.shelf(k, 8);
            for (int place = 0; place < 8; place++) {
                int of = place;
                due.answer("lay(0, " + k + ", " + place + ")", 8 * k + place + 1, () -> x.lay(0, shelf, of));
            }
        }
        due.answer("lay(0, 3, 7) once more, in a full oven", 32, () -> x.lay(0, 3, 7));
        due.same("shelf 3", "8: 0 0 0 0 0 0 0 0", House.shelf(x, 3));
    }

    private static void shelfOut(Due due) {
        for (int kind = House.DOUGH; kind <= House.LEVAIN; kind++) {
            BakeHouse x = House.with(kind, 5);
            for (int place : new int[] {0, 7, -1, 8, House.LOW, House.HIGH}) {
                due.thrown("lay(0, 3, " + place + ") of KIND " + kind, NULL, House.TEXT_OUT, () -> x.lay(0, 3, place));
            }
            due.answer("count(3)", 6, () -> x.count(House.MISSED));
            due.answer("places(3), out as it was", BakeHouse.NONE, () -> x.places(3));
        }
        BakeHouse x = House.with(House.DOUGH, 5);
        x.shelf(0, 8);
        due.thrown("lay(0, 1, 0), out beside one that is in", NULL, House.TEXT_OUT, () -> x.lay(0, 1, 0));
        x.out(0);
        due.thrown("lay(0, 0, 0), out again", NULL, House.TEXT_OUT, () -> x.lay(0, 0, 0));
    }

    private static void noSuchPlace(Due due) {
        for (int kind : new int[] {House.DOUGH, House.LEAVENED, House.RYE, House.SWEET, House.SOUR, House.LEVAIN}) {
            BakeHouse x = House.with(kind, 5);
            x.shelf(0, 0);
            due.thrown("lay(0, 0, 0), where there is no PLACE", INDEX, House.TEXT_PLACE, () -> x.lay(0, 0, 0));
            x.shelf(0, 3);
            for (int place : new int[] {-1, 3, 7, 8, House.LOW, House.HIGH}) {
                due.thrown("lay(0, 0, " + place + ") of 3 PLACES", INDEX, House.TEXT_PLACE, () -> x.lay(0, 0, place));
            }
            x.shelf(0, 8);
            for (int place : new int[] {-1, 8}) {
                due.thrown("lay(0, 0, " + place + ") of 8 PLACES", INDEX, House.TEXT_PLACE, () -> x.lay(0, 0, place));
            }
            due.answer("count(3)", 9, () -> x.count(House.MISSED));
            due.same("shelf 0", "8: -1 -1 -1 -1 -1 -1 -1 -1", House.shelf(x, 0));
        }
    }

    private static void inPlace(Due due) {
        BakeHouse x = House.with(House.DOUGH, 5);
        x.loaf(House.RYE, 5);
        x.shelf(0, 1);
        due.answer("lay(0, 0, 0), onto an empty PLACE, the first and the last", 1, () -> x.lay(0, 0, 0));
        due.answer("lay(1, 0, 0), onto a LOAF", 1, () -> x.lay(1, 0, 0));
        due.answer("at(0, 0)", 1, () -> x.at(0, 0));
        due.answer("lay(1, 0, 0), onto itself", 1, () -> x.lay(1, 0, 0));
        due.answer("lay(0, 0, 0), back", 1, () -> x.lay(0, 0, 0));
        due.answer("at(0, 0)", 0, () -> x.at(0, 0));
    }

    private static void brioche(Due due) {
        BakeHouse x = House.with(House.BRIOCHE, 5);
        x.shelf(0, 2);
        due.answer("lay(0, 0, 0), in both PLACES", 2, () -> x.lay(0, 0, 0));
        due.same("shelf 0", "2: 0 0", House.shelf(x, 0));
        x.shelf(0, 2);
        due.thrown("lay(0, 0, 1), whose PLACE behind is none", INDEX, House.TEXT_PLACE, () -> x.lay(0, 0, 1));
        due.same("shelf 0, where the first UNDER stays done", "2: -1 0", House.shelf(x, 0));
        x.shelf(0, 2);
        due.thrown("lay(0, 0, -1), whose first UNDER ends it", INDEX, House.TEXT_PLACE, () -> x.lay(0, 0, -1));
        due.same("shelf 0, where PLACE 0 is not taken", "2: -1 -1", House.shelf(x, 0));
        due.thrown("lay(0, 0, 2)", INDEX, House.TEXT_PLACE, () -> x.lay(0, 0, 2));
        due.thrown("lay(0, 0, " + House.HIGH + "), and no wrap-around", INDEX, House.TEXT_PLACE,
            () -> x.lay(0, 0, House.HIGH));
        due.same("THE BOOK", "20 25 20 25 20 25 20 20 25 20 20 25", House.book(x));
        x.shelf(0, 1);
        due.thrown("lay(0, 0, 0), of one PLACE", INDEX, House.TEXT_PLACE, () -> x.lay(0, 0, 0));
        due.same("shelf 0", "1: 0", House.shelf(x, 0));
        x.shelf(1, 8);
        due.answer("lay(0, 1, 6), the last two PLACES", 3, () -> x.lay(0, 1, 6));
        due.answer("lay(0, 1, 5), one of them again", 4, () -> x.lay(0, 1, 5));
        due.thrown("lay(0, 1, 7), and not onto the next SHELF", INDEX, House.TEXT_PLACE, () -> x.lay(0, 1, 7));
    }

    private static void flat(Due due) {
        BakeHouse x = House.with(House.FLAT, 5);
        int[][] halves = {{-1, 0}, {0, 0}, {1, 0}, {2, 1}, {3, 1}, {14, 7}, {15, 7}};
        for (int[] half : halves) {
            x.shelf(0, 8);
            due.answer("lay(0, 0, " + half[0] + ")", 1, () -> x.lay(0, 0, half[0]));
            due.answer("at(0, " + half[1] + ")", 0, () -> x.at(0, half[1]));
        }
        x.shelf(0, 8);
        for (int place : new int[] {-2, -3, 16, 17, House.LOW, House.HIGH}) {
            due.thrown("lay(0, 0, " + place + ")", INDEX, House.TEXT_PLACE, () -> x.lay(0, 0, place));
        }
        due.same("shelf 0", "8: -1 -1 -1 -1 -1 -1 -1 -1", House.shelf(x, 0));
        x.shelf(0, 0);
        due.thrown("lay(0, 0, -1) of no PLACES", INDEX, House.TEXT_PLACE, () -> x.lay(0, 0, -1));
    }

    private static void levain(Due due) {
        BakeHouse x = House.with(House.LEVAIN, 5);
        x.rest(0, 600);
        due.thrown("lay(0, 0, 0), out", NULL, House.TEXT_OUT, () -> x.lay(0, 0, 0));
        due.same("its state: the FOLD stays done", "25 1 0 0", House.state(x, 0));
        x.shelf(0, 1);
        due.thrown("lay(0, 0, 1), no such PLACE", INDEX, House.TEXT_PLACE, () -> x.lay(0, 0, 1));
        due.same("its state: the FOLD stays done, and ACID is 0 at least", "12 2 0 0", House.state(x, 0));
        due.answer("lay(0, 0, 0)", 1, () -> x.lay(0, 0, 0));
        due.same("its state", "6 3 0 0", House.state(x, 0));
        BakeHouse sour = House.with(House.SOUR, 5);
        sour.shelf(0, 1);
        sour.lay(0, 0, 0);
        due.same("a SOUR's state, which is not folded", "0 0 0 0", House.state(sour, 0));
    }

    private static void anyNumber(Due due) {
        for (int kind = House.DOUGH; kind <= House.LEVAIN; kind++) {
            BakeHouse x = House.with(kind, 5);
            x.shelf(2, 8);
            for (int place : new int[] {House.LOW, House.LOW + 1, -1000, 1000, House.HIGH - 1, House.HIGH}) {
                due.thrown("lay(0, 2, " + place + ") of KIND " + kind + ", not OUTSIDE", INDEX, House.TEXT_PLACE,
                    () -> x.lay(0, 2, place));
            }
        }
    }

    private static void howMany(Due due) {
        BakeHouse x = House.with(House.DOUGH, 5);
        x.loaf(House.DOUGH, 5);
        x.shelf(0, 2);
        x.shelf(3, 2);
        due.answer("lay(0, 0, 0), the first", 1, () -> x.lay(0, 0, 0));
        due.answer("lay(0, 0, 0), the same again", 1, () -> x.lay(0, 0, 0));
        due.answer("lay(0, 3, 1), on another SHELF", 2, () -> x.lay(0, 3, 1));
        due.answer("lay(1, 0, 0), its own PLACES alone", 1, () -> x.lay(1, 0, 0));
        due.answer("lay(0, 3, 1), since one was taken from it", 1, () -> x.lay(0, 3, 1));
        x.lay(0, 0, 1);
        x.out(0);
        due.answer("lay(0, 3, 0), since one went out with its SHELF", 2, () -> x.lay(0, 3, 0));
        x.shelf(3, 1);
        due.answer("lay(0, 3, 0), since another SHELF came in", 1, () -> x.lay(0, 3, 0));
    }

    private static void unknown(Due due) {
        BakeHouse x = House.with(House.LEVAIN, 5);
        x.shelf(0, 1);
        due.unchanged(x, () -> {
            due.each("lay(?, 0, 0)", BakeHouse.UNKNOWN, House.NO_LOAVES, loaf -> x.lay(loaf, 0, 0));
            due.each("lay(?, 1, 0), ahead of NULL", BakeHouse.UNKNOWN, House.NO_LOAVES, loaf -> x.lay(loaf, 1, 0));
            due.each("lay(?, 0, 1), ahead of INDEX", BakeHouse.UNKNOWN, House.NO_LOAVES, loaf -> x.lay(loaf, 0, 1));
            due.each("lay(?, 4, 0), ahead of OUTSIDE", BakeHouse.UNKNOWN, House.NO_LOAVES, loaf -> x.lay(loaf, 4, 0));
        });
    }

    private static void outside(Due due) {
        for (int kind = House.DOUGH; kind <= House.LEVAIN; kind++) {
            BakeHouse x = House.with(kind, 5);
            x.shelf(0, 2);
            x.shelf(3, 2);
            x.rest(0, 60);
            due.unchanged(x, () -> {
                due.each("lay(0, ?, 0)", BakeHouse.OUTSIDE, House.NO_SHELVES, k -> x.lay(0, k, 0));
                due.each("lay(0, ?, -1), ahead of INDEX", BakeHouse.OUTSIDE, House.NO_SHELVES, k -> x.lay(0, k, -1));
            });
        }
    }

    private static void thrownNull(Due due) {
        BakeHouse x = House.with(House.DOUGH, 5);
        due.thrown("lay(0, 0, 0)", NULL, House.TEXT_OUT, () -> x.lay(0, 0, 0));
        due.thrown("lay(0, 0, -1), NULL ahead of INDEX", NULL, House.TEXT_OUT, () -> x.lay(0, 0, -1));
        x.shelf(0, 0);
        due.thrown("lay(0, 0, 0), in with no PLACES: not NULL", INDEX, House.TEXT_PLACE, () -> x.lay(0, 0, 0));
    }

    private static void thrownIndex(Due due) {
        BakeHouse x = House.with(House.DOUGH, 5);
        x.shelf(0, 1);
        due.thrown("lay(0, 0, -1), too small", INDEX, House.TEXT_PLACE, () -> x.lay(0, 0, -1));
        due.answer("lay(0, 0, 0), the one there is", 1, () -> x.lay(0, 0, 0));
        due.thrown("lay(0, 0, 1), too large", INDEX, House.TEXT_PLACE, () -> x.lay(0, 0, 1));
        due.answer("at(0, 0), as it was", 0, () -> x.at(0, 0));
    }
}

/** The edges of the line 'Codes', which binds every promise. */
final class CodeEdges {
    private CodeEdges() {
    }

    static void run(Edges edges) {
        edges.edge(2, "Codes: UNKNOWN -101 (a LOAF), OUTSIDE -102, STATE -103 (as told), ROOM -104", CodeEdges::numbers);
        edges.edge(11, "the first of these that fits", CodeEdges::first);
        edges.edge(7, "ahead of all that a call throws", CodeEdges::aheadOfThrows);
        edges.edge(13, "nothing is changed then", CodeEdges::nothingChanged);
    }

    private static void numbers(Due due) {
        BakeHouse x = House.with(House.DOUGH, 5);
        due.answer("tell(1, 0)", -101, () -> x.tell(1, House.KIND));
        due.answer("tell(0, 6)", -102, () -> x.tell(0, 6));
        due.answer("cost(0)", -103, () -> x.cost(0));
        for (int i = 1; i < 20; i++) {
            x.loaf(House.DOUGH, 5);
        }
        due.answer("loaf(0, 5)", -104, () -> x.loaf(House.DOUGH, 5));
        due.answer("places(0)", -1, () -> x.places(0));
    }

    private static void first(Due due) {
        BakeHouse x = House.with(House.DOUGH, 5);
        due.answer("change(1, -1), UNKNOWN and OUTSIDE", -101, () -> x.change(1, -1));
        due.answer("change(0, -1), OUTSIDE and STATE", -102, () -> x.change(0, -1));
        due.answer("change(0, 0), STATE alone", -103, () -> x.change(0, 0));
        due.answer("rest(1, -1), UNKNOWN and OUTSIDE", -101, () -> x.rest(1, -1));
        due.answer("lay(1, 4, 0), UNKNOWN and OUTSIDE", -101, () -> x.lay(1, 4, 0));
        due.answer("bake(1, -1), UNKNOWN and OUTSIDE", -101, () -> x.bake(1, -1));
        due.answer("tell(1, 6), UNKNOWN and OUTSIDE", -101, () -> x.tell(1, 6));
        for (int i = 1; i < 20; i++) {
            x.loaf(House.DOUGH, 5);
        }
        due.answer("loaf(8, 5), OUTSIDE and ROOM", -102, () -> x.loaf(8, 5));
        due.answer("loaf(0, 2001), OUTSIDE and ROOM", -102, () -> x.loaf(0, 2001));
    }

    private static void aheadOfThrows(Due due) {
        BakeHouse x = House.with(House.FLAT, 5);
        x.loaf(House.BRIOCHE, 5);
        due.answer("shelf(4, -1)", -102, () -> x.shelf(4, -1));
        due.answer("rest(2, 600)", -101, () -> x.rest(2, 600));
        due.answer("rest(1, 601)", -102, () -> x.rest(1, 601));
        due.answer("lay(2, 0, -1)", -101, () -> x.lay(2, 0, -1));
        due.answer("lay(0, 4, -1)", -102, () -> x.lay(0, 4, -1));
        due.answer("worth(2)", -101, () -> x.worth(2));
        due.answer("cost(2)", -101, () -> x.cost(2));
        due.answer("change(0, 100001)", -102, () -> x.change(0, 100001));
        due.each("count(?)", 0, new int[] {House.RULES, House.FALLEN, House.MISSED, House.BY_ZERO}, x::count);
    }

    /** Every refused call there is, in a house where all that it could change stands. */
    private static void nothingChanged(Due due) {
        BakeHouse x = House.with(House.LEVAIN, 5);
        x.loaf(House.BRIOCHE, 5);
        x.loaf(House.FLAT, 5);
        x.loaf(House.DOUGH, 5);
        x.shelf(0, 3);
        x.shelf(3, 2);
        x.night(480);
        x.lay(0, 0, 0);
        x.lay(1, 0, 1);
        x.lay(2, 3, 3);
        x.fire(100);
        due.unchanged(x, () -> {
            due.answer("loaf(8, 5)", -102, () -> x.loaf(8, 5));
            due.answer("loaf(0, 0)", -102, () -> x.loaf(0, 0));
            due.answer("shelf(0, 9)", -102, () -> x.shelf(0, 9));
            due.answer("shelf(4, 2)", -102, () -> x.shelf(4, 2));
            due.answer("out(4)", -102, () -> x.out(4));
            due.answer("rest(4, 600)", -101, () -> x.rest(4, 600));
            due.answer("rest(1, 601)", -102, () -> x.rest(1, 601));
            due.answer("fold(4)", -101, () -> x.fold(4));
            due.answer("lay(4, 0, 0)", -101, () -> x.lay(4, 0, 0));
            due.answer("lay(0, 4, 0)", -102, () -> x.lay(0, 4, 0));
            due.answer("bake(4, 100)", -101, () -> x.bake(4, 100));
            due.answer("bake(0, 401)", -102, () -> x.bake(0, 401));
            due.answer("worth(4)", -101, () -> x.worth(4));
            due.answer("cost(4)", -101, () -> x.cost(4));
            due.answer("cost(3)", -103, () -> x.cost(3));
            due.answer("change(4, 5)", -101, () -> x.change(4, 5));
            due.answer("change(0, -1)", -102, () -> x.change(0, -1));
            due.answer("change(3, 5)", -103, () -> x.change(3, 5));
            due.answer("fire(401)", -102, () -> x.fire(401));
            due.answer("night(601)", -102, () -> x.night(601));
            due.answer("at(4, 0)", -102, () -> x.at(4, 0));
            due.answer("places(4)", -102, () -> x.places(4));
            due.answer("tell(4, 0)", -101, () -> x.tell(4, 0));
            due.answer("tell(0, 6)", -102, () -> x.tell(0, 6));
            due.answer("count(5)", -102, () -> x.count(5));
        });
    }
}

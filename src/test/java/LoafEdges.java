/** The edges of promises 1 (a new object), 2 (loaf) and 16 (tell). */
final class LoafEdges {
    private static final int LAST_CALL = 512;

    private LoafEdges() {
    }

    static void run(Edges edges) {
        edges.edge(1, "No LOAVES", LoafEdges::noLoaves);
        edges.edge(1, "all SHELVES out", LoafEdges::allOut);
        edges.edge(1, "THE BOOK is empty", LoafEdges::emptyBook);
        edges.edge(1, "An object is used for at most 512 calls after it has been made", LoafEdges::lastCall);
        edges.edge(1, "what later calls answer is free", LoafEdges::laterCalls);
        edges.edge(2, "A LOAF: its number", LoafEdges::itsNumber);
        edges.edge(2, "OUTSIDE: KIND, MASS", LoafEdges::outside);
        edges.edge(2, "ROOM", LoafEdges::room);
        edges.edge(2, "0 DOUGH; upon it 1 LEAVENED and 6 FLAT; upon LEAVENED 2 RYE and 3 SWEET; upon RYE 4 SOUR;"
            + " upon SWEET 5 BRIOCHE; upon SOUR 7 LEVAIN", LoafEdges::kinds);
        edges.edge(2, "LOAVES (20 at most, numbered from 0 on) have a KIND", LoafEdges::twenty);
        edges.edge(2, "a MASS (1 .. 2000)", LoafEdges::masses);
        edges.edge(2, "AIR, FOLDS, ACID, CRUST are 0 at first", LoafEdges::allNought);
        edges.edge(16, "Of a LOAF: 0 KIND, 1 MASS, 2 AIR, 3 FOLDS, 4 ACID, 5 CRUST", LoafEdges::tellEach);
        edges.edge(16, "UNKNOWN", LoafEdges::tellUnknown);
        edges.edge(16, "OUTSIDE", LoafEdges::tellOutside);
    }

    private static void noLoaves(Due due) {
        BakeHouse x = new BakeHouse();
        due.answer("count(0)", 0, () -> x.count(House.LOAVES));
        due.each("tell(?, 0)", BakeHouse.UNKNOWN, new int[] {-1, 0, 19, 20}, loaf -> x.tell(loaf, House.KIND));
        due.answer("night(600), where none rests", 0, () -> x.night(600));
        due.answer("count(1), since none rested", 0, () -> x.count(House.RULES));
        due.answer("the first loaf", 0, () -> x.loaf(House.DOUGH, 1));
        due.answer("count(0) of another object", 0, () -> new BakeHouse().count(House.LOAVES));
    }

    private static void allOut(Due due) {
        BakeHouse x = new BakeHouse();
        due.each("places(?)", BakeHouse.NONE, new int[] {0, 1, 2, 3}, x::places);
        due.each("at(?, 0)", BakeHouse.NONE, new int[] {0, 1, 2, 3}, k -> x.at(k, 0));
        due.each("out(?)", 0, new int[] {0, 1, 2, 3}, x::out);
        due.answer("fire(400), where nothing lies", 0, () -> x.fire(400));
    }

    private static void emptyBook(Due due) {
        BakeHouse x = new BakeHouse();
        due.each("book(?)", BakeHouse.NONE, new int[] {0, 1, 99, 100}, x::book);
        due.each("count(?)", 0, new int[] {House.RULES, House.FALLEN, House.MISSED, House.BY_ZERO}, x::count);
    }

    /** The dearest calls there are, up to the last that is promised: nothing overflows, nothing runs out. */
    private static void lastCall(Due due) {
        BakeHouse nights = new BakeHouse();
        for (int i = 0; i < 20; i++) {
            nights.loaf(House.LEVAIN, 2000);
        }
        for (int i = 0; i < LAST_CALL - 25; i++) {
            nights.night(600);
        }
        due.answer("count(1) after 487 nights of 20 LEVAINS", 487 * 20 * 4, () -> nights.count(House.RULES));
        due.answer("ACID after them", 487, () -> nights.tell(19, House.ACID));
        due.answer("AIR after them", 100, () -> nights.tell(0, House.AIR));
        due.answer("book(99) after them", 7, () -> nights.book(99));
        due.answer("worth(19), the 512th call", 200 + 487, () -> nights.worth(19));

        BakeHouse fires = fullOven(House.FLAT, House.RYE);
        for (int i = 0; i < LAST_CALL - 2 - 4 - 32 - 3; i++) {
            fires.fire(i % 2 == 0 ? 400 : 0);
        }
        due.answer("CRUST of a FLAT after 471 fires", 16 * 236 * 80, () -> fires.tell(0, House.CRUST));
        due.answer("CRUST of a RYE after them", 16 * (236 * 37 - 235 * 3), () -> fires.tell(1, House.CRUST));
        due.answer("count(1), the 512th call", 16 * 2 + 16 + 471 * 64, () -> fires.count(House.RULES));

        BakeHouse folds = House.with(House.BRIOCHE, 2000);
        for (int i = 0; i < LAST_CALL - 2; i++) {
            folds.fold(0);
        }
        due.answer("cost(0), the 512th call", 2 * (200 + 2 * 2 * 510) + 7, () -> folds.cost(0));
    }

    /** The answers are free, but no call ever throws by itself. */
    private static void laterCalls(Due due) {
        BakeHouse x = fullOven(House.SOUR, House.FLAT);
        for (int i = 0; i < 20_000; i++) {
            x.night(600);
            x.fire(400);
        }
        due.holds("that the machine threw nothing", x.count(House.LOAVES) == 2);
    }

    private static BakeHouse fullOven(int kind, int other) {
        BakeHouse x = House.with(kind, 10);
        x.loaf(other, 10);
        for (int k = 0; k < 4; k++) {
            x.shelf(k, 8);
            for (int place = 0; place < 8; place++) {
                int loaf = k % 2;
                x.lay(loaf, k, kind == House.FLAT && loaf == 0 ? 2 * place : place);
            }
        }
        return x;
    }

    private static void itsNumber(Due due) {
        BakeHouse x = new BakeHouse();
        due.answer("loaf(0, 1), the first", 0, () -> x.loaf(House.DOUGH, 1));
        due.answer("loaf(8, 1), refused", BakeHouse.OUTSIDE, () -> x.loaf(8, 1));
        due.answer("loaf(0, 1), the second: what was refused took no number", 1, () -> x.loaf(House.DOUGH, 1));
    }

    private static void outside(Due due) {
        BakeHouse x = House.with(House.DOUGH, 1);
        due.unchanged(x, () -> {
            due.each("loaf(?, 1)", BakeHouse.OUTSIDE, new int[] {-1, 8, House.LOW, House.HIGH}, kind -> x.loaf(kind, 1));
            due.each("loaf(7, ?)", BakeHouse.OUTSIDE, new int[] {0, -1, 2001, House.LOW, House.HIGH},
                mass -> x.loaf(House.LEVAIN, mass));
            due.answer("loaf(8, 2001)", BakeHouse.OUTSIDE, () -> x.loaf(8, 2001));
        });
    }

    private static void room(Due due) {
        BakeHouse x = new BakeHouse();
        for (int i = 0; i < 20; i++) {
            x.loaf(i % 8, 1 + i);
        }
        due.unchanged(x, () -> {
            due.answer("loaf(0, 1), the 21st", BakeHouse.ROOM, () -> x.loaf(House.DOUGH, 1));
            due.answer("loaf(7, 2000), the 21st", BakeHouse.ROOM, () -> x.loaf(House.LEVAIN, 2000));
            due.answer("loaf(8, 1), OUTSIDE ahead of ROOM", BakeHouse.OUTSIDE, () -> x.loaf(8, 1));
            due.answer("loaf(0, 0), OUTSIDE ahead of ROOM", BakeHouse.OUTSIDE, () -> x.loaf(House.DOUGH, 0));
        });
    }

    private static void kinds(Due due) {
        BakeHouse x = new BakeHouse();
        due.answer("loaf(-1, 5), too small a KIND", BakeHouse.OUTSIDE, () -> x.loaf(-1, 5));
        due.answer("loaf(8, 5), too large a KIND", BakeHouse.OUTSIDE, () -> x.loaf(8, 5));
        for (int kind = House.DOUGH; kind <= House.LEVAIN; kind++) {
            int of = kind;
            due.answer("loaf(" + kind + ", 5)", kind, () -> x.loaf(of, 5));
            due.answer("its KIND", kind, () -> x.tell(of, House.KIND));
        }
        // Which kind stands upon which shows in the rules of a BAKE, told from the latest on.
        String[] rules = {"30", "30", "30 32", "30 33", "30 32 34", "30 33", "30 36", "30 32 34"};
        for (int kind = House.DOUGH; kind <= House.LEVAIN; kind++) {
            BakeHouse one = House.with(kind, 5);
            one.bake(0, 0);
            due.same("the rules of BAKE of KIND " + kind, rules[kind], House.book(one));
        }
    }

    private static void twenty(Due due) {
        BakeHouse x = new BakeHouse();
        due.answer("tell(0, 0), where there is none yet", BakeHouse.UNKNOWN, () -> x.tell(0, House.KIND));
        for (int number = 0; number < 20; number++) {
            int kind = number % 8;
            due.answer("loaf " + number, number, () -> x.loaf(kind, 5));
            due.answer("the KIND of it", kind, () -> x.tell(x.count(House.LOAVES) - 1, House.KIND));
            due.answer("the one behind it", BakeHouse.UNKNOWN, () -> x.tell(x.count(House.LOAVES), House.KIND));
        }
        due.answer("one more", BakeHouse.ROOM, () -> x.loaf(House.DOUGH, 5));
        due.answer("count(0)", 20, () -> x.count(House.LOAVES));
        due.answer("fold(19), the last of them, a SWEET", 2, () -> x.fold(19));
    }

    private static void masses(Due due) {
        BakeHouse x = new BakeHouse();
        due.pairs("loaf(0, ?)", new int[][] {{0, BakeHouse.OUTSIDE}, {1, 0}, {2, 1}, {1999, 2}, {2000, 3},
            {2001, BakeHouse.OUTSIDE}}, mass -> x.loaf(House.DOUGH, mass));
        due.pairs("tell(?, 1)", new int[][] {{0, 1}, {1, 2}, {2, 1999}, {3, 2000}}, loaf -> x.tell(loaf, House.MASS));
    }

    private static void allNought(Due due) {
        for (int kind = House.DOUGH; kind <= House.LEVAIN; kind++) {
            due.same("the state of a new loaf of KIND " + kind, "0 0 0 0", House.state(House.with(kind, 2000), 0));
        }
        BakeHouse x = House.with(House.SOUR, 5);
        x.rest(0, 600);
        x.fold(0);
        x.rest(0, 600);
        x.bake(0, 400);
        x.loaf(House.SOUR, 5);
        due.same("the state of a new loaf beside an old one", "0 0 0 0", House.state(x, 1));
    }

    private static void tellEach(Due due) {
        BakeHouse x = House.with(House.SOUR, 2000);
        x.rest(0, 600);
        x.rest(0, 60);
        x.fold(0);
        x.bake(0, 400);
        due.pairs("tell(0, ?)", new int[][] {{House.KIND, 4}, {House.MASS, 2000}, {House.AIR, 27}, {House.FOLDS, 1},
            {House.ACID, 1}, {House.CRUST, 39}}, what -> x.tell(0, what));
        BakeHouse rye = House.with(House.RYE, 1);
        rye.bake(0, 20);
        due.answer("tell(0, 5), a CRUST that is no code", -1, () -> rye.tell(0, House.CRUST));
    }

    private static void tellUnknown(Due due) {
        BakeHouse x = House.with(House.DOUGH, 5);
        due.unchanged(x, () -> {
            due.each("tell(?, 0)", BakeHouse.UNKNOWN, House.NO_LOAVES, loaf -> x.tell(loaf, House.KIND));
            due.each("tell(?, 5)", BakeHouse.UNKNOWN, House.NO_LOAVES, loaf -> x.tell(loaf, House.CRUST));
            due.each("tell(?, 6), ahead of OUTSIDE", BakeHouse.UNKNOWN, House.NO_LOAVES, loaf -> x.tell(loaf, 6));
        });
    }

    private static void tellOutside(Due due) {
        BakeHouse x = House.with(House.DOUGH, 5);
        due.unchanged(x, () ->
            due.each("tell(0, ?)", BakeHouse.OUTSIDE, new int[] {-1, 6, House.LOW, House.HIGH}, what -> x.tell(0, what)));
    }
}

/** The edges of promises 17 (book) and 18 (count). */
final class BookEdges {
    private BookEdges() {
    }

    static void run(Edges edges) {
        edges.edge(17, "Each RULE, as it begins, comes behind THE BOOK", BookEdges::asItBegins);
        edges.edge(17, "10 times its ACT (0 REST, 1 FOLD, 2 LAY, 3 BAKE, 4 WORTH) and the KIND that tells it",
            BookEdges::actAndKind);
        edges.edge(17, "(the latest 100 are kept)", BookEdges::hundredKept);
        edges.edge(17, "COST and CHANGE are no RULES", BookEdges::noRules);
        edges.edge(17, "FALLEN, NULL, INDEX, ARITHMETIC end the ACT there: what was done by then stays done",
            BookEdges::endsThere);
        edges.edge(17, "Row i of THE BOOK, from 0, the latest one, on", BookEdges::fromTheLatest);
        edges.edge(17, "NONE: there is none such, or it is not kept", BookEdges::none);
        edges.edge(18, "0 LOAVES", BookEdges::loaves);
        edges.edge(18, "1 RULES that began ever", BookEdges::rules);
        edges.edge(18, "2 FALLEN ever", BookEdges::fallen);
        edges.edge(18, "3 NULL and INDEX ever", BookEdges::missed);
        edges.edge(18, "4 ARITHMETIC ever", BookEdges::byZero);
        edges.edge(18, "OUTSIDE", BookEdges::outside);
    }

    private static void asItBegins(Due due) {
        BakeHouse x = House.with(House.LEVAIN, 5);
        x.rest(0, 0);
        due.same("THE BOOK: who begins first stands behind, and UNDER ahead of it", "0 2 4 7", House.book(x));
        BakeHouse brioche = House.with(House.BRIOCHE, 5);
        Due.outcome(() -> brioche.rest(0, 600));
        Due.outcome(() -> brioche.lay(0, 0, 0));
        due.same("THE BOOK: rules that began and did not end", "20 25 0 5", House.book(brioche));
        BakeHouse sweet = House.with(House.SWEET, 5);
        sweet.fold(0);
        due.same("THE BOOK: a rule that began twice", "10 10 13", House.book(sweet));
    }

    private static void actAndKind(Due due) {
        String[] rest = {"0", "0", "0 2", "0", "0 2 4", "0 5", "0", "0 2 4 7"};
        String[] fold = {"10", "10", "10", "10 10 13", "10 14", "10 10 13", "16", "10 14"};
        String[] lay = {"20", "20", "20", "20", "20", "20 20 25", "20 26", "20 10 14 27"};
        String[] bake = {"30", "30", "30 32", "30 33", "30 32 34", "30 33", "30 36", "30 32 34"};
        String[] worth = {"40", "40", "40", "40", "40 44", "40 45", "46", "40 44 47"};
        for (int kind = House.DOUGH; kind <= House.LEVAIN; kind++) {
            BakeHouse x = House.with(kind, 5);
            x.shelf(0, 2);
            x.rest(0, 6);
            x.fold(0);
            x.lay(0, 0, 0);
            x.bake(0, 400);
            x.worth(0);
            due.same("THE BOOK of KIND " + kind, worth[kind] + " " + bake[kind] + " " + lay[kind] + " " + fold[kind]
                + " " + rest[kind], House.book(x));
        }
    }

    /** The book wraps around once, and again, at every one of its rows. */
    private static void hundredKept(Due due) {
        BakeHouse x = House.with(House.DOUGH, 5);
        x.worth(0);
        for (int i = 1; i < 99; i++) {
            x.fold(0);
        }
        due.answer("book(98) of 99", 40, () -> x.book(98));
        due.answer("book(99) of 99", BakeHouse.NONE, () -> x.book(99));
        x.fold(0);
        due.answer("book(99) of 100", 40, () -> x.book(99));
        due.answer("book(100) of 100", BakeHouse.NONE, () -> x.book(100));
        x.bake(0, 0);
        due.answer("book(99) of 101, where the first is not kept", 10, () -> x.book(99));
        due.answer("book(100) of 101", BakeHouse.NONE, () -> x.book(100));
        due.answer("book(0) of 101", 30, () -> x.book(0));
        due.answer("book(1) of 101", 10, () -> x.book(1));
        for (int i = 102; i <= 200; i++) {
            x.fold(0);
        }
        due.answer("book(99) of 200, the 101st", 30, () -> x.book(99));
        x.rest(0, 0);
        due.answer("book(99) of 201, where the 101st is not kept", 10, () -> x.book(99));
        due.answer("book(0) of 201", 0, () -> x.book(0));
        due.answer("count(1)", 201, () -> x.count(House.RULES));
    }

    private static void noRules(Due due) {
        for (int kind = House.SOUR; kind <= House.LEVAIN; kind++) {
            BakeHouse x = House.with(kind, 5);
            x.bake(0, 400);
            String baked = House.book(x);
            x.worth(0);
            String rules = House.book(x).substring(0, House.book(x).length() - baked.length());
            x.cost(0);
            due.same("THE BOOK of KIND " + kind + " after cost", rules + rules + baked, House.book(x));
            x.change(0, 0);
            due.same("THE BOOK after change", rules + rules + rules + baked, House.book(x));
        }
        BakeHouse unsold = House.with(House.SWEET, 5);
        unsold.cost(0);
        unsold.change(0, 5);
        due.same("THE BOOK of a SWEET, which is not sold", "", House.book(unsold));
    }

    private static void endsThere(Due due) {
        BakeHouse fallen = House.with(House.BRIOCHE, 5);
        Due.outcome(() -> fallen.rest(0, 600));
        due.same("FALLEN: AIR stays 10", "10 0 0 0", House.state(fallen, 0));
        BakeHouse out = House.with(House.BRIOCHE, 5);
        Due.outcome(() -> out.lay(0, 0, 0));
        due.same("NULL: the second UNDER did not begin", "20 25", House.book(out));
        BakeHouse index = House.with(House.BRIOCHE, 5);
        index.shelf(0, 1);
        Due.outcome(() -> index.lay(0, 0, 0));
        due.same("INDEX of the second UNDER: the first stays done", "1: 0", House.shelf(index, 0));
        due.same("INDEX: both had begun", "20 20 25", House.book(index));
        BakeHouse levain = House.with(House.LEVAIN, 5);
        levain.rest(0, 600);
        Due.outcome(() -> levain.lay(0, 0, 0));
        due.same("NULL behind a FOLD: that stays done", "25 1 0 0", House.state(levain, 0));
        BakeHouse flat = House.with(House.FLAT, 5);
        Due.outcome(() -> flat.change(0, 5));
        due.same("ARITHMETIC: its rule stays in THE BOOK", "46", House.book(flat));
    }

    private static void fromTheLatest(Due due) {
        BakeHouse x = House.with(House.DOUGH, 5);
        x.rest(0, 0);
        due.pairs("book(?) of 1", new int[][] {{0, 0}, {1, BakeHouse.NONE}}, x::book);
        x.fold(0);
        due.pairs("book(?) of 2", new int[][] {{0, 10}, {1, 0}, {2, BakeHouse.NONE}}, x::book);
        x.worth(0);
        due.pairs("book(?) of 3", new int[][] {{0, 40}, {1, 10}, {2, 0}, {3, BakeHouse.NONE}}, x::book);
    }

    private static void none(Due due) {
        int[] never = {-1, 100, 101, House.LOW, House.HIGH};
        BakeHouse x = House.with(House.DOUGH, 5);
        due.each("book(?) of none", BakeHouse.NONE, new int[] {-1, 0, 1, 99, 100, House.LOW, House.HIGH}, x::book);
        for (int i = 0; i < 100; i++) {
            x.fold(0);
        }
        due.each("book(?) of 100", BakeHouse.NONE, never, x::book);
        for (int i = 0; i < 150; i++) {
            x.fold(0);
        }
        due.each("book(?) of 250", BakeHouse.NONE, never, x::book);
        due.answer("book(99) of 250", 10, () -> x.book(99));
    }

    private static void loaves(Due due) {
        BakeHouse x = new BakeHouse();
        due.answer("count(0) of none", 0, () -> x.count(House.LOAVES));
        x.loaf(House.DOUGH, 0);
        due.answer("count(0) after one that was refused", 0, () -> x.count(House.LOAVES));
        for (int i = 0; i < 22; i++) {
            x.loaf(House.DOUGH, 5);
        }
        due.answer("count(0) after 22, of which two had no room", 20, () -> x.count(House.LOAVES));
    }

    private static void rules(Due due) {
        BakeHouse x = House.with(House.LEVAIN, 5);
        due.answer("count(1) of none", 0, () -> x.count(House.RULES));
        for (int i = 0; i < 25; i++) {
            x.rest(0, 0);
        }
        due.answer("count(1) of 100", 100, () -> x.count(House.RULES));
        x.rest(0, 0);
        due.answer("count(1) of 104, more than are kept", 104, () -> x.count(House.RULES));
        x.rest(0, 601);
        x.rest(1, 0);
        due.answer("count(1), not more by what is refused", 104, () -> x.count(House.RULES));
    }

    private static void fallen(Due due) {
        BakeHouse x = House.with(House.BRIOCHE, 5);
        x.rest(0, 539);
        due.answer("count(2) of none", 0, () -> x.count(House.FALLEN));
        Due.outcome(() -> x.rest(0, 600));
        due.answer("count(2) after rest", 1, () -> x.count(House.FALLEN));
        x.night(600);
        x.night(600);
        due.answer("count(2) after two nights too", 3, () -> x.count(House.FALLEN));
        x.night(0);
        due.answer("count(2), not more by a night without a fall", 3, () -> x.count(House.FALLEN));
    }

    private static void missed(Due due) {
        BakeHouse x = House.with(House.BRIOCHE, 5);
        due.answer("count(3) of none", 0, () -> x.count(House.MISSED));
        Due.outcome(() -> x.lay(0, 0, 0));
        due.answer("count(3) after a NULL", 1, () -> x.count(House.MISSED));
        x.shelf(0, 1);
        Due.outcome(() -> x.lay(0, 0, 1));
        due.answer("count(3) after an INDEX", 2, () -> x.count(House.MISSED));
        Due.outcome(() -> x.lay(0, 0, 0));
        due.answer("count(3) after an INDEX of the PLACE behind", 3, () -> x.count(House.MISSED));
        Due.outcome(() -> x.shelf(0, -1));
        x.at(0, 5);
        x.at(1, 0);
        x.fire(400);
        x.lay(0, 4, 0);
        x.lay(1, 0, 0);
        due.answer("count(3), not more by what is neither", 3, () -> x.count(House.MISSED));
    }

    private static void byZero(Due due) {
        BakeHouse x = House.with(House.FLAT, 5);
        due.answer("count(4) of none", 0, () -> x.count(House.BY_ZERO));
        Due.outcome(() -> x.worth(0));
        due.answer("count(4) after worth", 1, () -> x.count(House.BY_ZERO));
        Due.outcome(() -> x.cost(0));
        due.answer("count(4) after cost", 2, () -> x.count(House.BY_ZERO));
        Due.outcome(() -> x.change(0, 0));
        due.answer("count(4) after change", 3, () -> x.count(House.BY_ZERO));
        x.change(0, -1);
        x.bake(0, 5);
        x.worth(0);
        due.answer("count(4), not more by what is none", 3, () -> x.count(House.BY_ZERO));
    }

    private static void outside(Due due) {
        BakeHouse x = House.with(House.DOUGH, 5);
        x.fold(0);
        due.unchanged(x, () ->
            due.each("count(?)", BakeHouse.OUTSIDE, new int[] {-1, 5, House.LOW, House.HIGH}, x::count));
    }
}

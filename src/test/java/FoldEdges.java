/** The edges of promise 6 (fold), and of the rule that each FOLD is done by. */
final class FoldEdges {
    private FoldEdges() {
    }

    static void run(Edges edges) {
        edges.edge(6, "FOLD. DOUGH: AIR is AIR / 2, FOLDS is 1 more", FoldEdges::halved);
        edges.edge(6, "SWEET: UNDER, twice", FoldEdges::sweet);
        edges.edge(6, "SOUR: UNDER; ", FoldEdges::sourUnder);
        edges.edge(6, "ACID is 1 less, 0 at least", FoldEdges::sourAcid);
        edges.edge(6, "FLAT: FOLDS is 1 more", FoldEdges::flat);
        edges.edge(6, "FOLD: FOLDS then", FoldEdges::foldsThen);
        edges.edge(6, "UNKNOWN", FoldEdges::unknown);
    }

    /** A loaf of a kind that rests by DOUGH's rule, with this AIR (below 90). */
    private static BakeHouse withAir(int kind, int air) {
        BakeHouse x = House.with(kind, 5);
        x.rest(0, 6 * air);
        return x;
    }

    private static int airFolded(int kind, int air) {
        BakeHouse x = withAir(kind, air);
        x.fold(0);
        return x.tell(0, House.AIR);
    }

    private static void halved(Due due) {
        int[][] halves = {{0, 0}, {1, 0}, {2, 1}, {3, 1}, {99, 49}, {100, 50}};
        due.pairs("AIR of a folded DOUGH of AIR ?", halves, air -> airFolded(House.DOUGH, air));
        due.pairs("AIR of a folded LEAVENED of AIR ?", halves, air -> airFolded(House.LEAVENED, air));
        BakeHouse empty = House.with(House.DOUGH, 5);
        due.answer("fold(0) without AIR", 1, () -> empty.fold(0));
        due.same("its state", "0 1 0 0", House.state(empty, 0));
    }

    private static void sweet(Due due) {
        int[][] quarters = {{0, 0}, {1, 0}, {3, 0}, {4, 1}, {7, 1}, {89, 22}};
        due.pairs("AIR of a folded SWEET of AIR ?", quarters, air -> airFolded(House.SWEET, air));
        due.pairs("AIR of a folded BRIOCHE of AIR ?", quarters, air -> airFolded(House.BRIOCHE, air));
        BakeHouse x = withAir(House.SWEET, 100);
        due.answer("fold(0)", 2, () -> x.fold(0));
        due.same("its state", "25 2 0 0", House.state(x, 0));
        due.same("THE BOOK", "10 10 13 0", House.book(x));
    }

    private static void sourUnder(Due due) {
        BakeHouse x = House.with(House.SOUR, 5);
        x.rest(0, 36);
        due.answer("fold(0) of AIR 3", 1, () -> x.fold(0));
        due.same("its state", "1 1 0 0", House.state(x, 0));
        due.same("THE BOOK", "10 14 0 2 4", House.book(x));
    }

    private static void sourAcid(Due due) {
        for (int kind : new int[] {House.SOUR, House.LEVAIN}) {
            BakeHouse x = House.with(kind, 5);
            x.fold(0);
            due.answer("ACID of KIND " + kind + ", which had none", 0, () -> x.tell(0, House.ACID));
            x.rest(0, 0);
            x.rest(0, 0);
            x.fold(0);
            due.answer("ACID, which was 2", 1, () -> x.tell(0, House.ACID));
            x.fold(0);
            due.answer("ACID, which was 1", 0, () -> x.tell(0, House.ACID));
            x.fold(0);
            due.answer("ACID, which was 0", 0, () -> x.tell(0, House.ACID));
            x.rest(0, 0);
            due.answer("ACID, and no debt of it", 1, () -> x.tell(0, House.ACID));
        }
    }

    private static void flat(Due due) {
        due.pairs("AIR of a folded FLAT of AIR ?", new int[][] {{0, 0}, {1, 1}, {100, 100}},
            air -> airFolded(House.FLAT, air));
        BakeHouse x = withAir(House.FLAT, 100);
        due.answer("fold(0)", 1, () -> x.fold(0));
        due.same("THE BOOK, without DOUGH's rule of FOLD", "16 0", House.book(x));
    }

    private static void foldsThen(Due due) {
        for (int kind = House.DOUGH; kind <= House.LEVAIN; kind++) {
            BakeHouse x = House.with(kind, 5);
            int each = kind == House.SWEET || kind == House.BRIOCHE ? 2 : 1;
            due.answer("fold(0) of KIND " + kind, each, () -> x.fold(0));
            due.answer("fold(0) again", 2 * each, () -> x.fold(0));
            due.answer("FOLDS", 2 * each, () -> x.tell(0, House.FOLDS));
        }
        BakeHouse many = House.with(House.SWEET, 5);
        for (int i = 0; i < 500; i++) {
            many.fold(0);
        }
        due.answer("fold(0) after 500, which have no most", 1002, () -> many.fold(0));
    }

    private static void unknown(Due due) {
        BakeHouse x = House.with(House.SOUR, 5);
        x.rest(0, 600);
        due.unchanged(x, () -> due.each("fold(?)", BakeHouse.UNKNOWN, House.NO_LOAVES, x::fold));
        due.answer("fold(0) of a new object", BakeHouse.UNKNOWN, () -> new BakeHouse().fold(0));
    }
}

/** The edges of promises 9 (worth), 10 (cost) and 11 (change), and of the rule that each WORTH is told by. */
final class ShopEdges {
    private static final Class<ArithmeticException> ARITHMETIC = ArithmeticException.class;

    private ShopEdges() {
    }

    static void run(Edges edges) {
        edges.edge(9, "WORTH (a number). DOUGH: MASS / 10 + 2 * FOLDS", ShopEdges::dough);
        edges.edge(9, "SOUR: UNDER + ACID", ShopEdges::sour);
        edges.edge(9, "BRIOCHE: 2 * UNDER", ShopEdges::brioche);
        edges.edge(9, "LEVAIN: UNDER + WEIGHED, which is 5 if DONE as CRUST tells it now (20 or more), else 0",
            ShopEdges::levain);
        edges.edge(9, "FLAT: 1000 / CRUST (by 0 ARITHMETIC)", ShopEdges::flat);
        edges.edge(9, "WORTH.", ShopEdges::worthOfEach);
        edges.edge(9, "UNKNOWN", ShopEdges::worthUnknown);
        edges.edge(9, "ArithmeticException: ARITHMETIC", ShopEdges::worthThrows);
        edges.edge(10, "THE SHOP sells LOAVES of KINDS 4, 5, 6, 7 alone", ShopEdges::whatIsSold);
        edges.edge(10, "COST is WORTH, and a tenth of it more", ShopEdges::aTenthMore);
        edges.edge(10, "of a BRIOCHE WORTH and 7 more", ShopEdges::sevenMore);
        edges.edge(10, "COST.", ShopEdges::costOfEach);
        edges.edge(10, "UNKNOWN", ShopEdges::costUnknown);
        edges.edge(10, "STATE: THE SHOP does not sell it", ShopEdges::costState);
        edges.edge(10, "ArithmeticException: ARITHMETIC", ShopEdges::costThrows);
        edges.edge(11, "CHANGE of coins is coins less COST", ShopEdges::change);
        edges.edge(11, "-1 where that is below 0", ShopEdges::tooFew);
        edges.edge(11, "CHANGE of coins (0 .. 100000)", ShopEdges::coins);
        edges.edge(11, "UNKNOWN", ShopEdges::changeUnknown);
        edges.edge(11, "OUTSIDE", ShopEdges::changeOutside);
        edges.edge(11, "STATE: THE SHOP does not sell it", ShopEdges::changeState);
        edges.edge(11, "ArithmeticException: ARITHMETIC", ShopEdges::changeThrows);
    }

    /** A FLAT of this CRUST: a heat of 5 makes 1 of it, a heat of 400 makes 80. */
    private static BakeHouse flatOf(int crust) {
        BakeHouse x = House.with(House.FLAT, 5);
        for (int left = crust; left > 0; left -= 80) {
            x.bake(0, 5 * Math.min(left, 80));
        }
        return x;
    }

    private static void dough(Due due) {
        int[][] worths = {{1, 0}, {9, 0}, {10, 1}, {19, 1}, {20, 2}, {1999, 199}, {2000, 200}};
        for (int kind = House.DOUGH; kind <= House.SWEET; kind++) {
            int of = kind;
            due.pairs("worth(0) of KIND " + kind + " and MASS ?", worths, mass -> House.with(of, mass).worth(0));
        }
        BakeHouse x = House.with(House.DOUGH, 9);
        x.fold(0);
        due.answer("worth(0) of MASS 9 and FOLDS 1", 2, () -> x.worth(0));
        x.rest(0, 600);
        x.bake(0, 400);
        due.answer("worth(0), whatever its AIR and its CRUST", 2, () -> x.worth(0));
    }

    private static void sour(Due due) {
        BakeHouse x = House.with(House.SOUR, 9);
        due.answer("worth(0) of MASS 9 and ACID 0", 0, () -> x.worth(0));
        x.rest(0, 0);
        due.answer("worth(0) of ACID 1", 1, () -> x.worth(0));
        x.fold(0);
        due.answer("worth(0) of ACID 0 and FOLDS 1", 2, () -> x.worth(0));
        x.bake(0, 400);
        due.answer("worth(0) of CRUST 37, which is not WEIGHED", 2, () -> x.worth(0));
    }

    private static void brioche(Due due) {
        due.pairs("worth(0) of a BRIOCHE of MASS ?", new int[][] {{1, 0}, {9, 0}, {10, 2}, {19, 2}, {20, 4}, {1999, 398},
            {2000, 400}}, mass -> House.with(House.BRIOCHE, mass).worth(0));
        BakeHouse x = House.with(House.BRIOCHE, 19);
        x.fold(0);
        due.answer("worth(0) of MASS 19 and FOLDS 2", 10, () -> x.worth(0));
    }

    private static void levain(Due due) {
        BakeHouse x = House.with(House.LEVAIN, 100);
        due.answer("worth(0) of CRUST 0", 10, () -> x.worth(0));
        x.bake(0, 0);
        due.answer("worth(0) of CRUST -3", 10, () -> x.worth(0));
        x.bake(0, 250);
        due.answer("worth(0) of CRUST 19", 10, () -> x.worth(0));
        x.bake(0, 40);
        due.answer("worth(0) of CRUST 20", 15, () -> x.worth(0));
        x.bake(0, 20);
        due.answer("worth(0) of CRUST 19 again, as it is now", 10, () -> x.worth(0));
        x.bake(0, 400);
        x.bake(0, 400);
        due.answer("worth(0) of CRUST 93, which has no most", 15, () -> x.worth(0));
        BakeHouse acid = House.with(House.LEVAIN, 100);
        for (int i = 0; i < 6; i++) {
            acid.rest(0, 0);
        }
        due.answer("bake(0, 30), DONE by its ACID", 1, () -> acid.bake(0, 30));
        due.answer("worth(0), where CRUST does not tell it", 16, () -> acid.worth(0));
        due.same("its latest rules, and no BAKE among them", "40 44 47",
            acid.book(0) + " " + acid.book(1) + " " + acid.book(2));
    }

    private static void flat(Due due) {
        due.pairs("worth(0) of a FLAT of CRUST ?", new int[][] {{1, 1000}, {2, 500}, {3, 333}, {20, 50}, {334, 2},
            {500, 2}, {501, 1}, {1000, 1}, {1001, 0}}, crust -> flatOf(crust).worth(0));
        BakeHouse x = House.with(House.FLAT, 2000);
        x.fold(0);
        due.thrown("worth(0) of CRUST 0, whatever its MASS", ARITHMETIC, House.TEXT_CRUST, () -> x.worth(0));
        x.bake(0, 4);
        due.thrown("worth(0), baked by 4, of CRUST 0 still", ARITHMETIC, House.TEXT_CRUST, () -> x.worth(0));
        x.bake(0, 5);
        due.answer("worth(0) of CRUST 1", 1000, () -> x.worth(0));
        due.answer("count(4)", 2, () -> x.count(House.BY_ZERO));
    }

    private static void worthOfEach(Due due) {
        int[] worths = {20, 20, 20, 20, 20, 40, 50, 25};
        String[] rules = {"40", "40", "40", "40", "40 44", "40 45", "46", "40 44 47"};
        for (int kind = House.DOUGH; kind <= House.LEVAIN; kind++) {
            BakeHouse x = House.with(kind, 200);
            x.bake(0, kind == House.FLAT ? 100 : 230);
            String baked = House.book(x);
            due.answer("worth(0) of KIND " + kind, worths[kind], () -> x.worth(0));
            due.same("its rules", rules[kind] + " " + baked, House.book(x));
        }
    }

    private static void worthUnknown(Due due) {
        BakeHouse x = House.with(House.FLAT, 5);
        due.unchanged(x, () -> due.each("worth(?)", BakeHouse.UNKNOWN, House.NO_LOAVES, x::worth));
    }

    private static void worthThrows(Due due) {
        BakeHouse x = House.with(House.FLAT, 5);
        due.thrown("worth(0)", ARITHMETIC, House.TEXT_CRUST, () -> x.worth(0));
        due.same("THE BOOK: the rule began", "46", House.book(x));
        for (int kind = House.DOUGH; kind <= House.LEVAIN; kind++) {
            if (kind != House.FLAT) {
                int of = kind;
                due.answer("worth(0) of KIND " + kind + " without a CRUST", 0, () -> House.with(of, 5).worth(0));
            }
        }
    }

    private static void whatIsSold(Due due) {
        int[] costs = {BakeHouse.STATE, BakeHouse.STATE, BakeHouse.STATE, BakeHouse.STATE, 22, 47, 55, 27};
        for (int kind = House.DOUGH; kind <= House.LEVAIN; kind++) {
            BakeHouse x = House.with(kind, 200);
            x.bake(0, kind == House.FLAT ? 100 : 230);
            int cost = costs[kind];
            due.answer("cost(0) of KIND " + kind, cost, () -> x.cost(0));
            due.answer("change(0, 100) of it", cost < 0 ? cost : 100 - cost, () -> x.change(0, 100));
        }
    }

    private static void aTenthMore(Due due) {
        due.pairs("cost(0) of a SOUR of MASS ?", new int[][] {{1, 0}, {9, 0}, {10, 1}, {99, 9}, {100, 11}, {199, 20},
            {200, 22}, {1999, 218}, {2000, 220}}, mass -> House.with(House.SOUR, mass).cost(0));
        due.pairs("cost(0) of a FLAT of CRUST ?", new int[][] {{1, 1100}, {3, 366}, {1000, 1}, {1001, 0}},
            crust -> flatOf(crust).cost(0));
    }

    private static void sevenMore(Due due) {
        due.pairs("cost(0) of a BRIOCHE of MASS ?", new int[][] {{1, 7}, {9, 7}, {10, 9}, {50, 17}, {2000, 407}},
            mass -> House.with(House.BRIOCHE, mass).cost(0));
    }

    private static void costOfEach(Due due) {
        BakeHouse x = House.with(House.LEVAIN, 2000);
        due.answer("cost(0)", 220, () -> x.cost(0));
        due.same("THE BOOK: WORTH was asked once", "40 44 47", House.book(x));
        due.answer("cost(0) again, the same", 220, () -> x.cost(0));
    }

    private static void costUnknown(Due due) {
        BakeHouse x = House.with(House.DOUGH, 5);
        due.unchanged(x, () -> due.each("cost(?), ahead of STATE", BakeHouse.UNKNOWN, House.NO_LOAVES, x::cost));
    }

    private static void costState(Due due) {
        for (int kind = House.DOUGH; kind <= House.SWEET; kind++) {
            BakeHouse x = House.with(kind, 2000);
            due.unchanged(x, () -> due.answer("cost(0)", BakeHouse.STATE, () -> x.cost(0)));
        }
    }

    private static void costThrows(Due due) {
        BakeHouse x = House.with(House.FLAT, 5);
        due.thrown("cost(0)", ARITHMETIC, House.TEXT_CRUST, () -> x.cost(0));
        due.answer("count(4)", 1, () -> x.count(House.BY_ZERO));
        due.same("THE BOOK: the rule began", "46", House.book(x));
        x.bake(0, 5);
        due.answer("cost(0) of CRUST 1", 1100, () -> x.cost(0));
    }

    private static void change(Due due) {
        BakeHouse x = House.with(House.SOUR, 1000);
        due.pairs("change(0, ?) of COST 110", new int[][] {{110, 0}, {111, 1}, {200, 90}, {100000, 99890}},
            coins -> x.change(0, coins));
        due.answer("change(0, 0) of COST 0", 0, () -> House.with(House.SOUR, 9).change(0, 0));
        BakeHouse brioche = House.with(House.BRIOCHE, 9);
        due.pairs("change(0, ?) of COST 7", new int[][] {{6, -1}, {7, 0}, {8, 1}}, coins -> brioche.change(0, coins));
    }

    private static void tooFew(Due due) {
        BakeHouse x = House.with(House.SOUR, 1000);
        due.pairs("change(0, ?) of COST 110", new int[][] {{0, -1}, {1, -1}, {108, -1}, {109, -1}, {110, 0}},
            coins -> x.change(0, coins));
        due.answer("count(1): WORTH was asked each time", 10, () -> x.count(House.RULES));
        due.answer("change(0, 0) of COST 1100", -1, () -> flatOf(1).change(0, 0));
    }

    private static void coins(Due due) {
        BakeHouse x = House.with(House.SOUR, 9);
        due.pairs("change(0, ?)", new int[][] {{-1, BakeHouse.OUTSIDE}, {0, 0}, {1, 1}, {99999, 99999}, {100000, 100000},
            {100001, BakeHouse.OUTSIDE}}, coins -> x.change(0, coins));
    }

    private static void changeUnknown(Due due) {
        BakeHouse x = House.with(House.DOUGH, 5);
        due.unchanged(x, () -> {
            due.each("change(?, 0), ahead of STATE", BakeHouse.UNKNOWN, House.NO_LOAVES, loaf -> x.change(loaf, 0));
            due.each("change(?, -1), ahead of OUTSIDE", BakeHouse.UNKNOWN, House.NO_LOAVES, loaf -> x.change(loaf, -1));
            due.each("change(?, 100001)", BakeHouse.UNKNOWN, House.NO_LOAVES, loaf -> x.change(loaf, 100001));
        });
    }

    private static void changeOutside(Due due) {
        int[] wrong = {-1, 100001, House.LOW, House.HIGH};
        BakeHouse sour = House.with(House.SOUR, 2000);
        due.unchanged(sour, () -> due.each("change(0, ?)", BakeHouse.OUTSIDE, wrong, coins -> sour.change(0, coins)));
        BakeHouse flat = House.with(House.FLAT, 5);
        due.unchanged(flat, () ->
            due.each("change(0, ?), ahead of ARITHMETIC", BakeHouse.OUTSIDE, wrong, coins -> flat.change(0, coins)));
        BakeHouse dough = House.with(House.DOUGH, 5);
        due.unchanged(dough, () ->
            due.each("change(0, ?), ahead of STATE", BakeHouse.OUTSIDE, wrong, coins -> dough.change(0, coins)));
    }

    private static void changeState(Due due) {
        for (int kind = House.DOUGH; kind <= House.SWEET; kind++) {
            BakeHouse x = House.with(kind, 2000);
            due.unchanged(x, () ->
                due.each("change(0, ?)", BakeHouse.STATE, new int[] {0, 100000}, coins -> x.change(0, coins)));
        }
    }

    private static void changeThrows(Due due) {
        BakeHouse x = House.with(House.FLAT, 5);
        due.thrown("change(0, 0)", ARITHMETIC, House.TEXT_CRUST, () -> x.change(0, 0));
        due.thrown("change(0, 100000)", ARITHMETIC, House.TEXT_CRUST, () -> x.change(0, 100000));
        due.answer("count(4)", 2, () -> x.count(House.BY_ZERO));
        due.same("THE BOOK: the rules began", "46 46", House.book(x));
        x.bake(0, 5);
        due.answer("change(0, 1100) of CRUST 1", 0, () -> x.change(0, 1100));
    }
}

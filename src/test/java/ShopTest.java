/** Promises 9 (worth), 10 (cost) and 11 (change). */
public final class ShopTest {
    private static final Class<ArithmeticException> ARITHMETIC = ArithmeticException.class;

    public static void main(String[] args) {
        Due due = new Due("ShopTest");
        codes(due);
        unsold(due);
        sour(due);
        brioche(due);
        levain(due);
        flat(due);
        due.end();
    }

    private static void codes(Due due) {
        BakeHouse x = House.with(House.FLAT, 10);
        for (int loaf : new int[] {-1, 1, 20, House.LOW, House.HIGH}) {
            due.answer("9: worth(" + loaf + ")", BakeHouse.UNKNOWN, () -> x.worth(loaf));
            due.answer("10: cost(" + loaf + ")", BakeHouse.UNKNOWN, () -> x.cost(loaf));
            due.answer("11: change(" + loaf + ", 5)", BakeHouse.UNKNOWN, () -> x.change(loaf, 5));
            due.answer("11: change(" + loaf + ", -1), UNKNOWN first", BakeHouse.UNKNOWN, () -> x.change(loaf, -1));
        }
        for (int coins : new int[] {-1, 100001, House.LOW, House.HIGH}) {
            due.answer("11: change(0, " + coins + ")", BakeHouse.OUTSIDE, () -> x.change(0, coins));
        }
        due.holds("9, 10, 11: nothing is changed", House.book(x).equals("") && x.count(House.BY_ZERO) == 0);
    }

    private static void unsold(Due due) {
        for (int kind = House.DOUGH; kind <= House.SWEET; kind++) {
            BakeHouse x = House.with(kind, 309);
            due.answer("10: cost of kind " + kind, BakeHouse.STATE, () -> x.cost(0));
            due.answer("11: change of kind " + kind, BakeHouse.STATE, () -> x.change(0, 100));
            due.answer("11: OUTSIDE ahead of STATE", BakeHouse.OUTSIDE, () -> x.change(0, 100001));
            due.holds("10, 11: no rule began", House.book(x).equals(""));
            due.answer("9: worth of kind " + kind, 30, () -> x.worth(0));
            x.fold(0);
            due.answer("9: folded", kind == House.SWEET ? 34 : 32, () -> x.worth(0));
            due.answer("9: by the rule of DOUGH", 40, () -> x.book(0));
        }
    }

    private static void sour(Due due) {
        BakeHouse x = House.with(House.SOUR, 509);
        x.rest(0, 0);
        x.rest(0, 0);
        x.rest(0, 0);
        x.fold(0);
        due.answer("9: worth of SOUR", 54, () -> x.worth(0));
        due.answer("17: DOUGH", 40, () -> x.book(0));
        due.answer("17: behind SOUR", 44, () -> x.book(1));
        due.answer("10: cost of SOUR", 59, () -> x.cost(0));
        due.answer("11: more than it costs", 41, () -> x.change(0, 100));
        due.answer("11: just what it costs", 0, () -> x.change(0, 59));
        due.answer("11: less than it costs", -1, () -> x.change(0, 58));
        due.answer("11: far less", -1, () -> x.change(0, 0));
        due.answer("11: the most coins", 99941, () -> x.change(0, 100000));
        due.answer("18: each asks for WORTH once", 9 + 2 + 14, () -> x.count(House.RULES));
        BakeHouse small = House.with(House.SOUR, 99);
        due.answer("10: a tenth is cut toward 0", 9, () -> small.cost(0));
    }

    private static void brioche(Due due) {
        BakeHouse x = House.with(House.BRIOCHE, 409);
        due.answer("9: worth of BRIOCHE", 80, () -> x.worth(0));
        due.holds("9: its rules", House.book(x).equals("40 45"));
        x.fold(0);
        due.answer("9: folded", 88, () -> x.worth(0));
        due.answer("10: WORTH and 7", 95, () -> x.cost(0));
        due.answer("11: change", 5, () -> x.change(0, 100));
        due.answer("11: change", -1, () -> x.change(0, 94));
    }

    private static void levain(Due due) {
        BakeHouse x = House.with(House.LEVAIN, 200);
        x.rest(0, 0);
        due.answer("9: worth of LEVAIN", 21, () -> x.worth(0));
        due.holds("9: its rules", House.book(x).equals("40 44 47 0 2 4 7"));
        x.bake(0, 229);
        due.answer("9: CRUST 19 is not WEIGHED", 21, () -> x.worth(0));
        x.bake(0, 40);
        due.answer("9: CRUST 20 is", 26, () -> x.worth(0));
        due.answer("10: cost of LEVAIN", 28, () -> x.cost(0));
        due.answer("11: change of LEVAIN", 2, () -> x.change(0, 30));
        x.bake(0, 0);
        due.answer("9: as CRUST tells it now", 21, () -> x.worth(0));
        BakeHouse acid = House.with(House.LEVAIN, 200);
        for (int i = 0; i < 6; i++) {
            acid.rest(0, 0);
        }
        due.answer("8: done by its ACID", 1, () -> acid.bake(0, 30));
        due.answer("9: and not WEIGHED all the same", 26, () -> acid.worth(0));
    }

    private static void flat(Due due) {
        BakeHouse x = House.with(House.FLAT, 2000);
        x.fold(0);
        due.thrown("9: worth of FLAT without a crust", ARITHMETIC, House.TEXT_CRUST, () -> x.worth(0));
        due.thrown("10: cost of it", ARITHMETIC, House.TEXT_CRUST, () -> x.cost(0));
        due.thrown("11: change of it", ARITHMETIC, House.TEXT_CRUST, () -> x.change(0, 50));
        due.answer("18: each counts", 3, () -> x.count(House.BY_ZERO));
        due.holds("17: each began its rule", House.book(x).equals("46 46 46 16"));
        due.answer("11: OUTSIDE ahead of what is thrown", BakeHouse.OUTSIDE, () -> x.change(0, -1));
        x.bake(0, 15);
        due.answer("9: CRUST 3", 333, () -> x.worth(0));
        due.answer("10: and a tenth", 366, () -> x.cost(0));
        due.answer("11: change", 34, () -> x.change(0, 400));
        due.answer("17: DOUGH is not asked", 46, () -> x.book(0));
        due.answer("17: nor between", 46, () -> x.book(1));
        for (int i = 0; i < 13; i++) {
            x.bake(0, 400);
        }
        BakeHouse thin = House.with(House.FLAT, 2000);
        thin.bake(0, 5);
        due.answer("9: CRUST 1", 1000, () -> thin.worth(0));
        due.answer("9: CRUST 1043", 0, () -> x.worth(0));
        due.answer("10: it costs nothing", 0, () -> x.cost(0));
        due.answer("11: change of nothing", 0, () -> x.change(0, 0));
    }
}

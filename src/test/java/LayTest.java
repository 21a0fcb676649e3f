/** Promise 7 (lay). */
public final class LayTest {
    private static final Class<NullPointerException> NULL = NullPointerException.class;
    private static final Class<ArrayIndexOutOfBoundsException> INDEX = ArrayIndexOutOfBoundsException.class;

    public static void main(String[] args) {
        Due due = new Due("LayTest");
        codes(due);
        plainKinds(due);
        places(due);
        brioche(due);
        flat(due);
        levain(due);
        due.end();
    }

    private static void codes(Due due) {
        BakeHouse x = House.with(House.LEVAIN, 10);
        for (int loaf : new int[] {-1, 1, 20, House.LOW, House.HIGH}) {
            due.answer("7: lay(" + loaf + ", 0, 0)", BakeHouse.UNKNOWN, () -> x.lay(loaf, 0, 0));
            due.answer("7: lay(" + loaf + ", 4, 0), UNKNOWN ahead of OUTSIDE", BakeHouse.UNKNOWN, () -> x.lay(loaf, 4, 0));
        }
        for (int k : new int[] {-1, 4, House.LOW, House.HIGH}) {
            due.answer("7: lay(0, " + k + ", 0)", BakeHouse.OUTSIDE, () -> x.lay(0, k, 0));
        }
        due.holds("7: nothing is changed", House.state(x, 0).equals("0 0 0 0") && House.book(x).equals(""));
        due.answer("18: nothing counted", 0, () -> x.count(House.MISSED));
    }

    private static void plainKinds(Due due) {
        for (int kind = House.DOUGH; kind <= House.SOUR; kind++) {
            BakeHouse x = House.with(kind, 10);
            due.thrown("7: the shelf is out", NULL, House.TEXT_OUT, () -> x.lay(0, 3, 0));
            due.thrown("7: out, and no such place", NULL, House.TEXT_OUT, () -> x.lay(0, 3, -1));
            x.shelf(3, 2);
            for (int place : new int[] {-1, 2, House.LOW, House.HIGH}) {
                due.thrown("7: lay(0, 3, " + place + ")", INDEX, House.TEXT_PLACE, () -> x.lay(0, 3, place));
            }
            due.answer("18: both count", 6, () -> x.count(House.MISSED));
            due.answer("7: lay(0, 3, 1)", 1, () -> x.lay(0, 3, 1));
            due.answer("7: it lies there", 0, () -> x.at(3, 1));
            due.holds("7: by the rule of DOUGH", House.book(x).equals("20 20 20 20 20 20 20"));
            x.shelf(3, 0);
            due.thrown("7: a shelf of no places", INDEX, House.TEXT_PLACE, () -> x.lay(0, 3, 0));
        }
    }

    private static void places(Due due) {
        BakeHouse x = House.with(House.DOUGH, 10);
        x.loaf(House.RYE, 10);
        for (int k = 0; k < 4; k++) {
            x.shelf(k, 8);
        }
        due.answer("7: one place", 1, () -> x.lay(0, 0, 0));
        due.answer("7: the same place again", 1, () -> x.lay(0, 0, 0));
        due.answer("7: a place of another shelf", 2, () -> x.lay(0, 3, 7));
        due.answer("7: another loaf in place of it", 1, () -> x.lay(1, 0, 0));
        due.answer("7: it lies in one place less", 2, () -> x.lay(0, 1, 1));
        x.out(3);
        due.answer("7: what is out is no place", 2, () -> x.lay(0, 1, 2));
        x.shelf(1, 8);
        due.answer("7: a new shelf is empty", 1, () -> x.lay(0, 2, 2));
        fullOven(due);
    }

    private static void fullOven(Due due) {
        BakeHouse x = House.with(House.DOUGH, 10);
        for (int k = 0; k < 4; k++) {
            int shelf = k;
            x.shelf(k, 8);
            for (int place = 0; place < 8; place++) {
                int of = place;
                due.answer("7: all places", 8 * k + place + 1, () -> x.lay(0, shelf, of));
            }
        }
    }

    private static void brioche(Due due) {
        BakeHouse x = House.with(House.BRIOCHE, 10);
        due.thrown("7: BRIOCHE, the shelf is out", NULL, House.TEXT_OUT, () -> x.lay(0, 0, 0));
        due.holds("7: it ended at the first UNDER", House.book(x).equals("20 25"));
        x.shelf(0, 3);
        due.answer("7: BRIOCHE lies in two", 2, () -> x.lay(0, 0, 0));
        due.holds("7: its rules", House.book(x).equals("20 20 25 20 25"));
        due.answer("7: the place", 0, () -> x.at(0, 0));
        due.answer("7: the place behind it", 0, () -> x.at(0, 1));
        due.answer("7: not the third one", BakeHouse.NONE, () -> x.at(0, 2));
        due.thrown("7: the place behind the last one", INDEX, House.TEXT_PLACE, () -> x.lay(0, 0, 2));
        due.answer("7: the last one stays taken", 0, () -> x.at(0, 2));
        due.holds("7: both UNDER began", House.book(x).equals("20 20 25 20 20 25 20 25"));
        x.shelf(0, 3);
        due.thrown("7: BRIOCHE at -1", INDEX, House.TEXT_PLACE, () -> x.lay(0, 0, -1));
        due.answer("7: the place behind -1 is not taken", BakeHouse.NONE, () -> x.at(0, 0));
        due.thrown("7: BRIOCHE at the highest number", INDEX, House.TEXT_PLACE, () -> x.lay(0, 0, House.HIGH));
        due.answer("18: NULL and INDEX", 4, () -> x.count(House.MISSED));
    }

    private static void flat(Due due) {
        BakeHouse x = House.with(House.FLAT, 10);
        due.thrown("7: FLAT, the shelf is out", NULL, House.TEXT_OUT, () -> x.lay(0, 0, 0));
        x.shelf(0, 3);
        int[][] halves = {{-1, 0}, {0, 0}, {1, 0}, {2, 1}, {3, 1}, {4, 2}, {5, 2}};
        for (int[] half : halves) {
            x.shelf(0, 3);
            due.answer("7: FLAT at " + half[0], 1, () -> x.lay(0, 0, half[0]));
            due.answer("7: FLAT lies at " + half[1], 0, () -> x.at(0, half[1]));
        }
        for (int place : new int[] {-2, 6, House.LOW, House.HIGH}) {
            due.thrown("7: FLAT at " + place, INDEX, House.TEXT_PLACE, () -> x.lay(0, 0, place));
        }
        due.answer("18: NULL and INDEX", 5, () -> x.count(House.MISSED));
        due.answer("17: its latest rule", 20, () -> x.book(0));
        due.answer("17: and the one ahead of it", 26, () -> x.book(1));
    }

    private static void levain(Due due) {
        BakeHouse x = House.with(House.LEVAIN, 10);
        x.rest(0, 600);
        x.rest(0, 0);
        due.thrown("7: LEVAIN, the shelf is out", NULL, House.TEXT_OUT, () -> x.lay(0, 0, 0));
        due.holds("7: its FOLD stays done", House.state(x, 0).equals("25 1 1 0"));
        due.holds("7: FOLD of its own KIND", House.book(x).equals("20 10 14 27 0 2 4 7 0 2 4 7"));
        x.shelf(0, 1);
        due.answer("7: LEVAIN lies", 1, () -> x.lay(0, 0, 0));
        due.thrown("7: LEVAIN, no such place", INDEX, House.TEXT_PLACE, () -> x.lay(0, 0, 1));
        due.holds("7: folded three times", House.state(x, 0).equals("6 3 0 0"));
    }
}

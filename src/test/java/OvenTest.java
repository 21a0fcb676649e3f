/** Promises 3 (shelf), 4 (out), 14 (at) and 15 (places). */
public final class OvenTest {
    private static final int[] NO_SHELVES = {-1, 4, House.LOW, House.HIGH};

    public static void main(String[] args) {
        Due due = new Due("OvenTest");
        shelfEdges(due);
        shelfBelowNone(due);
        shelfAnew(due);
        outAndIn(due);
        at(due);
        due.end();
    }

    private static void shelfEdges(Due due) {
        BakeHouse x = new BakeHouse();
        for (int k : NO_SHELVES) {
            due.answer("3: shelf(" + k + ", 1)", BakeHouse.OUTSIDE, () -> x.shelf(k, 1));
            due.answer("3: shelf(" + k + ", -1), OUTSIDE ahead of what is thrown", BakeHouse.OUTSIDE, () -> x.shelf(k, -1));
            due.answer("4: out(" + k + ")", BakeHouse.OUTSIDE, () -> x.out(k));
            due.answer("14: at(" + k + ", 0)", BakeHouse.OUTSIDE, () -> x.at(k, 0));
            due.answer("15: places(" + k + ")", BakeHouse.OUTSIDE, () -> x.places(k));
        }
        due.answer("3: shelf(0, 9)", BakeHouse.OUTSIDE, () -> x.shelf(0, 9));
        due.answer("3: shelf(0, HIGH)", BakeHouse.OUTSIDE, () -> x.shelf(0, House.HIGH));
        due.answer("3: nothing was changed", BakeHouse.NONE, () -> x.places(0));
        for (int n = 0; n <= 8; n++) {
            int size = n;
            due.answer("3: shelf(3, " + n + ")", n, () -> x.shelf(3, size));
            due.answer("15: places(3)", n, () -> x.places(3));
        }
        due.answer("3: shelf(3, 9) of one that is in", BakeHouse.OUTSIDE, () -> x.shelf(3, 9));
        due.answer("3: it stays", 8, () -> x.places(3));
    }

    private static void shelfBelowNone(Due due) {
        BakeHouse x = House.with(House.DOUGH, 10);
        for (int n : new int[] {-1, -9, House.LOW}) {
            due.thrown("3: shelf(0, " + n + ")", NegativeArraySizeException.class, House.TEXT_SIZE, () -> x.shelf(0, n));
            due.answer("3: what was out stays out", BakeHouse.NONE, () -> x.places(0));
        }
        x.shelf(0, 3);
        x.lay(0, 0, 2);
        due.thrown("3: shelf(0, -2)", NegativeArraySizeException.class, House.TEXT_SIZE, () -> x.shelf(0, -2));
        due.answer("3: what was in stays in", 3, () -> x.places(0));
        due.answer("3: and what lies there too", 0, () -> x.at(0, 2));
        due.answer("18: this is neither NULL nor INDEX", 0, () -> x.count(House.MISSED));
    }

    private static void shelfAnew(Due due) {
        BakeHouse x = House.with(House.DOUGH, 10);
        x.shelf(2, 4);
        x.lay(0, 2, 1);
        x.lay(0, 2, 3);
        due.answer("3: a smaller one in its place", 2, () -> x.shelf(2, 2));
        due.answer("3: it is empty", BakeHouse.NONE, () -> x.at(2, 1));
        x.shelf(2, 8);
        due.answer("3: what lay behind the smaller one is gone", BakeHouse.NONE, () -> x.at(2, 3));
        x.lay(0, 2, 3);
        x.shelf(2, 8);
        due.answer("3: the same size, empty", BakeHouse.NONE, () -> x.at(2, 3));
        due.answer("3: the other shelves are not touched", BakeHouse.NONE, () -> x.places(1));
    }

    private static void outAndIn(Due due) {
        BakeHouse x = House.with(House.DOUGH, 10);
        x.shelf(1, 2);
        x.shelf(2, 0);
        x.lay(0, 1, 0);
        due.answer("4: out(1)", 1, () -> x.out(1));
        due.answer("4: out(1) again", 0, () -> x.out(1));
        due.answer("15: places of one that is out", BakeHouse.NONE, () -> x.places(1));
        due.answer("14: at one that is out", BakeHouse.NONE, () -> x.at(1, 0));
        due.answer("4: a shelf of no places is in", 1, () -> x.out(2));
        x.shelf(1, 2);
        due.answer("4: what went out does not come in again", BakeHouse.NONE, () -> x.at(1, 0));
        x.lay(0, 1, 1);
        x.out(1);
        due.answer("4: what went out is not baked", 0, () -> x.fire(400));
        due.answer("4: nor does it begin a rule", 2, () -> x.count(House.RULES));
    }

    private static void at(Due due) {
        BakeHouse x = House.with(House.DOUGH, 10);
        x.loaf(House.RYE, 10);
        x.shelf(0, 8);
        x.lay(0, 0, 0);
        x.lay(1, 0, 7);
        due.answer("14: at(0, 0)", 0, () -> x.at(0, 0));
        due.answer("14: at(0, 7)", 1, () -> x.at(0, 7));
        due.answer("14: at(0, 3), where none lies", BakeHouse.NONE, () -> x.at(0, 3));
        for (int place : new int[] {-1, 8, House.LOW, House.HIGH}) {
            due.answer("14: at(0, " + place + ")", BakeHouse.NONE, () -> x.at(0, place));
        }
        x.lay(1, 0, 0);
        due.answer("14: in place of what lay there", 1, () -> x.at(0, 0));
        due.answer("14: to look begins no rule", 3, () -> x.count(House.RULES));
    }
}

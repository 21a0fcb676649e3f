/** Promise 6 (fold). */
public final class FoldTest {
    public static void main(String[] args) {
        Due due = new Due("FoldTest");
        BakeHouse none = House.with(House.SOUR, 10);
        for (int loaf : new int[] {-1, 1, 20, House.LOW, House.HIGH}) {
            due.answer("6: fold(" + loaf + ")", BakeHouse.UNKNOWN, () -> none.fold(loaf));
        }
        due.holds("6: nothing is changed", House.state(none, 0).equals("0 0 0 0") && House.book(none).equals(""));
        folds(due, House.DOUGH, 1, "7 1 0 0", "10");
        folds(due, House.LEAVENED, 1, "7 1 0 0", "10");
        folds(due, House.RYE, 1, "3 1 0 0", "10");
        folds(due, House.SWEET, 2, "3 2 0 0", "10 10 13");
        folds(due, House.BRIOCHE, 2, "3 2 0 0", "10 10 13");
        folds(due, House.SOUR, 1, "3 1 0 0", "10 14");
        folds(due, House.LEVAIN, 1, "3 1 0 0", "10 14");
        folds(due, House.FLAT, 1, "15 1 0 0", "16");
        acid(due);
        due.end();
    }

    private static void folds(Due due, int kind, int want, String state, String rules) {
        BakeHouse x = House.with(kind, 10);
        x.rest(0, 90);
        String before = House.book(x);
        due.answer("6: fold of kind " + kind, want, () -> x.fold(0));
        due.holds("6: its state is " + state + ": " + House.state(x, 0), House.state(x, 0).equals(state));
        due.holds("6: its rules are " + rules + ": " + House.book(x), House.book(x).equals(rules + " " + before));
        due.answer("6: fold of kind " + kind + " again", 2 * want, () -> x.fold(0));
    }

    private static void acid(Due due) {
        BakeHouse x = House.with(House.SOUR, 10);
        x.fold(0);
        due.answer("6: ACID is 0 at least", 0, () -> x.tell(0, House.ACID));
        x.rest(0, 0);
        x.rest(0, 0);
        x.rest(0, 0);
        x.fold(0);
        due.answer("6: ACID is 1 less", 2, () -> x.tell(0, House.ACID));
    }
}

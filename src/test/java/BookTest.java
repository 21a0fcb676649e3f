/** Promises 17 (book) and 18 (count). */
public final class BookTest {
    public static void main(String[] args) {
        Due due = new Due("BookTest");
        edges(due);
        hundred(due);
        counts(due);
        due.end();
    }

    private static void edges(Due due) {
        BakeHouse x = House.with(House.RYE, 10);
        x.bake(0, 10);
        due.answer("17: book(0), the latest", 30, () -> x.book(0));
        due.answer("17: book(1), the one ahead of it", 32, () -> x.book(1));
        for (int i : new int[] {-1, 2, 99, 100, House.LOW, House.HIGH}) {
            due.answer("17: book(" + i + ")", BakeHouse.NONE, () -> x.book(i));
        }
        x.tell(0, 0);
        x.count(1);
        x.shelf(0, 1);
        x.out(0);
        x.at(0, 0);
        x.places(0);
        due.answer("17: what is no ACT is not in it", 2, () -> x.count(House.RULES));
    }

    private static void hundred(Due due) {
        BakeHouse x = House.with(House.DOUGH, 10);
        x.loaf(House.FLAT, 10);
        x.worth(0);
        for (int i = 0; i < 99; i++) {
            x.fold(0);
        }
        due.answer("17: the hundredth is kept", 40, () -> x.book(99));
        due.answer("17: there is none behind it", BakeHouse.NONE, () -> x.book(100));
        x.fold(1);
        due.answer("17: the latest of 101", 16, () -> x.book(0));
        due.answer("17: the one ahead of it", 10, () -> x.book(1));
        due.answer("17: the first one is not kept", 10, () -> x.book(99));
        due.answer("17: nor told at 100", BakeHouse.NONE, () -> x.book(100));
        due.answer("18: 101 began", 101, () -> x.count(House.RULES));
        for (int i = 0; i < 99; i++) {
            x.bake(0, 0);
        }
        due.answer("17: at 200, the oldest kept", 16, () -> x.book(99));
        due.answer("17: at 200, the latest", 30, () -> x.book(0));
        x.rest(0, 0);
        due.answer("17: at 201, the oldest kept", 30, () -> x.book(99));
        due.answer("17: at 201, the latest", 0, () -> x.book(0));
        due.answer("17: at 201, the one ahead of it", 30, () -> x.book(1));
        due.answer("18: 201 began", 201, () -> x.count(House.RULES));
    }

    private static void counts(Due due) {
        BakeHouse x = House.with(House.BRIOCHE, 10);
        x.loaf(House.FLAT, 10);
        x.loaf(House.LEVAIN, 10);
        Due.outcome(() -> x.rest(0, 600));
        x.night(600);
        Due.outcome(() -> x.lay(1, 0, 0));
        x.shelf(0, 1);
        Due.outcome(() -> x.lay(0, 0, 0));
        Due.outcome(() -> x.lay(2, 0, 5));
        Due.outcome(() -> x.worth(1));
        Due.outcome(() -> x.cost(1));
        Due.outcome(() -> x.change(1, 1));
        Due.outcome(() -> x.shelf(1, -1));
        int[] want = {3, 2 + 7 + 2 + 3 + 4 + 3, 2, 3, 3};
        for (int what = 0; what <= 4; what++) {
            int w = what;
            due.answer("18: count(" + what + ")", want[what], () -> x.count(w));
        }
        for (int what : new int[] {-1, 5, House.LOW, House.HIGH}) {
            due.answer("18: count(" + what + ")", BakeHouse.OUTSIDE, () -> x.count(what));
        }
    }
}

import java.util.List;

/** What several tests need of a bake house: its kinds by name, the texts it throws, and loaves brought to a state. */
final class House {
    static final int DOUGH = 0, LEAVENED = 1, RYE = 2, SWEET = 3, SOUR = 4, BRIOCHE = 5, FLAT = 6, LEVAIN = 7;
    static final int KIND = 0, MASS = 1, AIR = 2, FOLDS = 3, ACID = 4, CRUST = 5;
    static final int LOAVES = 0, RULES = 1, FALLEN = 2, MISSED = 3, BY_ZERO = 4;
    static final int LOW = Integer.MIN_VALUE, HIGH = Integer.MAX_VALUE;

    static final String TEXT_OUT = "the shelf is out";
    static final String TEXT_PLACE = "the shelf has no such place";
    static final String TEXT_SIZE = "a shelf of less than no places";
    static final String TEXT_FALLEN = "the brioche is fallen";
    static final String TEXT_CRUST = "a flat bread without a crust";

    static final List<String> TEXTS = List.of(TEXT_OUT, TEXT_PLACE, TEXT_SIZE, TEXT_FALLEN, TEXT_CRUST);

    private House() {
    }

    /** A house with one loaf, number 0. */
    static BakeHouse with(int kind, int mass) {
        BakeHouse x = new BakeHouse();
        x.loaf(kind, mass);
        return x;
    }

    /** The book from the latest row on, up to and without the first NONE. */
    static String book(BakeHouse x) {
        StringBuilder rows = new StringBuilder();
        for (int i = 0; i < 200 && x.book(i) != BakeHouse.NONE; i++) {
            rows.append(i == 0 ? "" : " ").append(x.book(i));
        }
        return rows.toString();
    }

    /** AIR, FOLDS, ACID and CRUST of a loaf. */
    static String state(BakeHouse x, int loaf) {
        return x.tell(loaf, AIR) + " " + x.tell(loaf, FOLDS) + " " + x.tell(loaf, ACID) + " " + x.tell(loaf, CRUST);
    }
}

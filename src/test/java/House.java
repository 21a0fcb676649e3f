import java.util.List;

/** What several tests need of a bake house: its kinds by name, the texts it throws, and loaves brought to a state. */
final class House {
    static final int DOUGH = 0, LEAVENED = 1, RYE = 2, SWEET = 3, SOUR = 4, BRIOCHE = 5, FLAT = 6, LEVAIN = 7;
    static final int KIND = 0, MASS = 1, AIR = 2, FOLDS = 3, ACID = 4, CRUST = 5;
    static final int LOAVES = 0, RULES = 1, FALLEN = 2, MISSED = 3, BY_ZERO = 4;
    static final int LOW = Integer.MIN_VALUE, HIGH = Integer.MAX_VALUE;

    /** Numbers that are no loaf where there is one loaf alone, and numbers that are no shelf. */
    static final int[] NO_LOAVES = {-1, 1, 19, 20, LOW, HIGH}, NO_SHELVES = {-1, 4, LOW, HIGH};

    static final String TEXT_OUT = "the shelf is out";
    static final String TEXT_PLACE = "the shelf has no such place";
    static final String TEXT_SIZE = "a shelf of less than no places";
    static final String TEXT_FALLEN = "the brioche is fallen";
    static final String TEXT_CRUST = "a flat bread without a crust";

    static final List<String> TEXTS = List.of(TEXT_OUT, TEXT_PLACE, TEXT_SIZE, TEXT_FALLEN, TEXT_CRUST);

    private House() {
    }

    /** A house with one loaf, number 0. */
    static BakeHouse with(int kind, int mass) {
        BakeHouse x = new BakeHouse();
        x.loaf(kind, mass);
        return x;
    }

    /** The book from the latest row on, up to and without the first NONE. */
    static String book(BakeHouse x) {
        StringBuilder rows = new StringBuilder();
        int row = x.book(0);
        for (int i = 1; i < 200 && row != BakeHouse.NONE; i++) {
            rows.append(i == 1 ? "" : " ").append(row);
            row = x.book(i);
        }
        return rows.toString();
    }

    /** AIR, FOLDS, ACID and CRUST of a loaf. */
    static String state(BakeHouse x, int loaf) {
        return x.tell(loaf, AIR) + " " + x.tell(loaf, FOLDS) + " " + x.tell(loaf, ACID) + " " + x.tell(loaf, CRUST);
    }

    /** All that can be told of a house: what a refused call must leave as it was. */
    static String all(BakeHouse x) {
        StringBuilder told = new StringBuilder("counts");
        for (int what = LOAVES; what <= BY_ZERO; what++) {
            told.append(' ').append(x.count(what));
        }
        int loaves = x.count(LOAVES);
        for (int loaf = 0; loaf < loaves; loaf++) {
            told.append(", loaf ").append(x.tell(loaf, KIND)).append(' ').append(x.tell(loaf, MASS));
            told.append(' ').append(state(x, loaf));
        }
        for (int k = 0; k < 4; k++) {
            told.append(", shelf ").append(shelf(x, k));
        }
        return told.append(", book ").append(book(x)).toString();
    }

    /** How many places a shelf has, and what lies in each. */
    static String shelf(BakeHouse x, int k) {
        int places = x.places(k);
        StringBuilder told = new StringBuilder().append(places).append(':');
        for (int place = 0; place < places; place++) {
            told.append(' ').append(x.at(k, place));
        }
        return told.toString();
    }
}

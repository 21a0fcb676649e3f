/** A bake house; the document ../shared/DOC.md says what each call answers. */
public final class BakeHouse {
    public static final int UNKNOWN = -101, OUTSIDE = -102, STATE = -103, ROOM = -104, NONE = -1;

    private static final int DOUGH = 0, LEAVENED = 1, RYE = 2, SWEET = 3, SOUR = 4, BRIOCHE = 5, FLAT = 6, LEVAIN = 7;
    private static final int REST = 0, FOLD = 1, LAY = 2, BAKE = 3, WORTH = 4;

    private static final int MOST_LOAVES = 20, MOST_MASS = 2000;
    private static final int SHELVES = 4, MOST_PLACES = 8;
    private static final int MOST_MINUTES = 600, MOST_HEAT = 400, MOST_COINS = 100000;
    private static final int ROWS_KEPT = 100;
    private static final int MOST_AIR = 100, FALLS_AT = 90, AIR_OF_FALLEN = 10;
    private static final int DONE_AT = 20, SWEET_BURNS_ABOVE = 60, ACID_IS_DONE_ABOVE = 5;

    private final Book book;
    private final Shelf[] oven;
    private final Dough[] loaves;
    private int loafCount;

    public BakeHouse() {
        book = new Book();
        oven = new Shelf[SHELVES];
        for (int k = 0; k < SHELVES; k++) {
            oven[k] = new Shelf();
        }
        loaves = new Dough[MOST_LOAVES];
        loafCount = 0;
    }

    public int loaf(int kind, int mass) {
        if (!within(kind, DOUGH, LEVAIN) || !within(mass, 1, MOST_MASS)) {
            return OUTSIDE;
        }
        int number = loafCount;
        if (number >= MOST_LOAVES) {
            return ROOM;
        }
        loaves[number] = knead(kind, number, mass);
        loafCount = number + 1;
        return number;
    }

    public int shelf(int k, int n) throws NegativeArraySizeException {
        Shelf shelf = findShelf(k);
        if (shelf == null || n > MOST_PLACES) {
            return OUTSIDE;
        }
        if (n < 0) {
            throw new NegativeArraySizeException("a shelf of less than no places");
        }
        shelf.bringIn(n);
        return n;
    }

    public int out(int k) {
        Shelf shelf = findShelf(k);
        if (shelf == null) {
            return OUTSIDE;
        }
        if (shelf.isOut()) {
            return 0;
        }
        shelf.takeOut();
        return 1;
    }

    public int rest(int loaf, int m) throws IllegalStateException {
        Dough dough = findLoaf(loaf);
        if (dough == null) {
            return UNKNOWN;
        }
        return within(m, 0, MOST_MINUTES) ? dough.doRest(m) : OUTSIDE;
    }

    public int fold(int loaf) {
        Dough dough = findLoaf(loaf);
        if (dough == null) {
            return UNKNOWN;
        }
        dough.doFold();
        return dough.folds;
    }

    public int lay(int loaf, int k, int place) throws NullPointerException, ArrayIndexOutOfBoundsException {
        Dough dough = findLoaf(loaf);
        if (dough == null) {
            return UNKNOWN;
        }
        Shelf shelf = findShelf(k);
        if (shelf == null) {
            return OUTSIDE;
        }
        dough.doLay(shelf, place);
        return placesOfLoaf(loaf);
    }

    public int bake(int loaf, int heat) {
        Dough dough = findLoaf(loaf);
        if (dough == null) {
            return UNKNOWN;
        }
        if (!within(heat, 0, MOST_HEAT)) {
            return OUTSIDE;
        }
        return dough.doBake(heat) ? 1 : 0;
    }

    public int worth(int loaf) throws ArithmeticException {
        Dough dough = findLoaf(loaf);
        return dough == null ? UNKNOWN : dough.askWorth();
    }

    public int cost(int loaf) throws ArithmeticException {
        Dough dough = findLoaf(loaf);
        if (dough == null) {
            return UNKNOWN;
        }
        return isSold(dough) ? priceOf(dough) : STATE;
    }

    public int change(int loaf, int coins) throws ArithmeticException {
        Dough dough = findLoaf(loaf);
        if (dough == null) {
            return UNKNOWN;
        }
        if (!within(coins, 0, MOST_COINS)) {
            return OUTSIDE;
        }
        if (!isSold(dough)) {
            return STATE;
        }
        int left = coins - priceOf(dough);
        return left < 0 ? -1 : left;
    }

    public int fire(int heat) {
        if (!within(heat, 0, MOST_HEAT)) {
            return OUTSIDE;
        }
        int done = 0;
        for (int k = 0; k < SHELVES; k++) {
            done += bakeShelf(k, heat);
        }
        return done;
    }

    public int night(int m) {
        if (!within(m, 0, MOST_MINUTES)) {
            return OUTSIDE;
        }
        int fallen = 0;
        for (int number = 0; number < MOST_LOAVES; number++) {
            Dough dough = findLoaf(number);
            if (dough != null && fallsAtRest(dough, m)) {
                fallen++;
            }
        }
        return fallen;
    }

    public int at(int k, int place) {
        Shelf shelf = findShelf(k);
        return shelf == null ? OUTSIDE : shelf.loafIn(place);
    }

    public int places(int k) {
        Shelf shelf = findShelf(k);
        if (shelf == null) {
            return OUTSIDE;
        }
        return shelf.isOut() ? NONE : shelf.size;
    }

    public int tell(int loaf, int what) {
        Dough dough = findLoaf(loaf);
        if (dough == null) {
            return UNKNOWN;
        }
        switch (what) {
            case 0: return dough.kind;
            case 1: return dough.mass;
            case 2: return dough.air;
            case 3: return dough.folds;
            case 4: return dough.acid;
            case 5: return dough.crust;
            default: return OUTSIDE;
        }
    }

    public int book(int i) {
        return book.row(i);
    }

    public int count(int what) {
        switch (what) {
            case 0: return loafCount;
            case 1: return book.begun;
            case 2: return book.fallen;
            case 3: return book.missed;
            case 4: return book.byZero;
            default: return OUTSIDE;
        }
    }

    private static boolean within(int value, int least, int most) {
        return value >= least && value <= most;
    }

    /** The loaf of a number, or null: UNKNOWN is the caller's to answer. */
    private Dough findLoaf(int loaf) {
        return within(loaf, 0, MOST_LOAVES - 1) ? loaves[loaf] : null;
    }

    /** The shelf of a number, or null: OUTSIDE is the caller's to answer. */
    private Shelf findShelf(int k) {
        return within(k, 0, SHELVES - 1) ? oven[k] : null;
    }

    private Dough knead(int kind, int number, int mass) {
        switch (kind) {
            case LEAVENED: return new Leavened(book, number, kind, mass);
            case RYE: return new Rye(book, number, kind, mass);
            case SWEET: return new Sweet(book, number, kind, mass);
            case SOUR: return new Sour(book, number, kind, mass);
            case BRIOCHE: return new Brioche(book, number, kind, mass);
            case FLAT: return new Flat(book, number, kind, mass);
            case LEVAIN: return new Levain(book, number, kind, mass);
            default: return new Dough(book, number, kind, mass);
        }
    }

    private int placesOfLoaf(int loaf) {
        int lying = 0;
        for (int k = 0; k < SHELVES; k++) {
            for (int place = 0; place < MOST_PLACES; place++) {
                if (at(k, place) == loaf) {
                    lying++;
                }
            }
        }
        return lying;
    }

    private int bakeShelf(int k, int heat) {
        int done = 0;
        for (int place = 0; place < MOST_PLACES; place++) {
            Dough dough = findLoaf(at(k, place));
            if (dough != null && dough.doBake(heat)) {
                done++;
            }
        }
        return done;
    }

    /** FALLEN ends the rest of one loaf alone; the night goes on with the next. */
    private static boolean fallsAtRest(Dough dough, int m) {
        try {
            dough.doRest(m);
            return false;
        } catch (IllegalStateException fallen) {
            return true;
        }
    }

    private static boolean isSold(Dough dough) {
        return within(dough.kind, SOUR, LEVAIN);
    }

    private static int priceOf(Dough dough) {
        int worth = dough.askWorth();
        return dough.kind == BRIOCHE ? worth + 7 : worth + worth / 10;
    }

    /** The rules that began, the latest of them kept in a ring, and the tallies of how acts ended. */
    private static final class Book {
        final int[] rows = new int[ROWS_KEPT];
        int next = 0;
        int kept = 0;
        int begun = 0;
        int fallen = 0;
        int missed = 0;
        int byZero = 0;

        void begin(int act, int kind) {
            if (next < 0 || next >= ROWS_KEPT) {
                next = 0;
            }
            rows[next] = 10 * act + kind;
            next++;
            if (kept < ROWS_KEPT) {
                kept++;
            }
            begun++;
        }

        int row(int i) {
            if (i < 0 || i >= kept) {
                return NONE;
            }
            int slot = next - 1 - i;
            if (slot < 0) {
                slot += ROWS_KEPT;
            }
            return within(slot, 0, ROWS_KEPT - 1) ? rows[slot] : NONE;
        }
    }

    /** A shelf keeps one row of places for good, so that bringing it in anew makes no object. */
    private static final class Shelf {
        private static final int OUT = -1;

        final int[] row = new int[MOST_PLACES];
        int size = OUT;

        boolean isOut() {
            return size == OUT;
        }

        /** n is 0 to MOST_PLACES. */
        void bringIn(int n) {
            size = n;
            for (int place = 0; place < MOST_PLACES; place++) {
                row[place] = NONE;
            }
        }

        void takeOut() {
            size = OUT;
        }

        boolean has(int place) {
            return place >= 0 && place < size && place < MOST_PLACES;
        }

        int loafIn(int place) {
            return has(place) ? row[place] : NONE;
        }

        void put(int place, int loaf) {
            if (has(place)) {
                row[place] = loaf;
            }
        }
    }

    /**
     * A loaf of the kind DOUGH. The kinds upon it are its subclasses: UNDER is super, an act that a rule
     * names is a plain call, and a rule writes the kind of its own class into the book, not the loaf's.
     */
    private static class Dough {
        final Book book;
        final int number;
        final int kind;
        final int mass;
        int air = 0;
        int folds = 0;
        int acid = 0;
        int crust = 0;

        Dough(Book book, int number, int kind, int mass) {
            this.book = book;
            this.number = number;
            this.kind = kind;
            this.mass = mass;
        }

        int doRest(int m) {
            book.begin(REST, DOUGH);
            air = Math.min(air + m / 6, MOST_AIR);
            return air;
        }

        void doFold() {
            book.begin(FOLD, DOUGH);
            air = air / 2;
            folds++;
        }

        void doLay(Shelf shelf, int place) {
            book.begin(LAY, DOUGH);
            if (shelf.isOut()) {
                book.missed++;
                throw new NullPointerException("the shelf is out");
            }
            if (!shelf.has(place)) {
                book.missed++;
                throw new ArrayIndexOutOfBoundsException("the shelf has no such place");
            }
            shelf.put(place, number);
        }

        boolean doBake(int heat) {
            book.begin(BAKE, DOUGH);
            crust += (heat + air) / 10;
            return isDoneByCrust();
        }

        int askWorth() {
            book.begin(WORTH, DOUGH);
            return mass / 10 + 2 * folds;
        }

        final boolean isDoneByCrust() {
            return crust >= DONE_AT;
        }
    }

    private static class Leavened extends Dough {
        Leavened(Book book, int number, int kind, int mass) {
            super(book, number, kind, mass);
        }
    }

    private static class Rye extends Leavened {
        Rye(Book book, int number, int kind, int mass) {
            super(book, number, kind, mass);
        }

        @Override
        int doRest(int m) {
            book.begin(REST, RYE);
            return super.doRest(m / 2);
        }

        @Override
        boolean doBake(int heat) {
            book.begin(BAKE, RYE);
            return super.doBake(heat - 30);
        }
    }

    private static class Sweet extends Leavened {
        Sweet(Book book, int number, int kind, int mass) {
            super(book, number, kind, mass);
        }

        @Override
        void doFold() {
            book.begin(FOLD, SWEET);
            super.doFold();
            super.doFold();
        }

        @Override
        boolean doBake(int heat) {
            book.begin(BAKE, SWEET);
            return super.doBake(heat) && crust <= SWEET_BURNS_ABOVE;
        }
    }

    private static class Sour extends Rye {
        Sour(Book book, int number, int kind, int mass) {
            super(book, number, kind, mass);
        }

        @Override
        int doRest(int m) {
            book.begin(REST, SOUR);
            acid++;
            return super.doRest(m);
        }

        @Override
        void doFold() {
            book.begin(FOLD, SOUR);
            super.doFold();
            acid = Math.max(acid - 1, 0);
        }

        @Override
        boolean doBake(int heat) {
            book.begin(BAKE, SOUR);
            boolean done = super.doBake(heat);
            return done || acid > ACID_IS_DONE_ABOVE;
        }

        @Override
        int askWorth() {
            book.begin(WORTH, SOUR);
            return super.askWorth() + acid;
        }
    }

    private static final class Brioche extends Sweet {
        Brioche(Book book, int number, int kind, int mass) {
            super(book, number, kind, mass);
        }

        @Override
        int doRest(int m) {
            book.begin(REST, BRIOCHE);
            int given = super.doRest(m);
            if (air >= FALLS_AT) {
                air = AIR_OF_FALLEN;
                book.fallen++;
                throw new IllegalStateException("the brioche is fallen");
            }
            return given;
        }

        @Override
        void doLay(Shelf shelf, int place) {
            book.begin(LAY, BRIOCHE);
            super.doLay(shelf, place);
            super.doLay(shelf, place + 1);
        }

        @Override
        int askWorth() {
            book.begin(WORTH, BRIOCHE);
            return 2 * super.askWorth();
        }
    }

    private static final class Flat extends Dough {
        Flat(Book book, int number, int kind, int mass) {
            super(book, number, kind, mass);
        }

        @Override
        void doFold() {
            book.begin(FOLD, FLAT);
            folds++;
        }

        @Override
        void doLay(Shelf shelf, int place) {
            book.begin(LAY, FLAT);
            super.doLay(shelf, place / 2);
        }

        @Override
        boolean doBake(int heat) {
            book.begin(BAKE, FLAT);
            return super.doBake(2 * heat);
        }

        @Override
        int askWorth() {
            book.begin(WORTH, FLAT);
            if (crust == 0) {
                book.byZero++;
                throw new ArithmeticException("a flat bread without a crust");
            }
            return 1000 / crust;
        }
    }

    private static final class Levain extends Sour {
        Levain(Book book, int number, int kind, int mass) {
            super(book, number, kind, mass);
        }

        @Override
        int doRest(int m) {
            book.begin(REST, LEVAIN);
            return super.doRest(m + acid);
        }

        @Override
        void doLay(Shelf shelf, int place) {
            book.begin(LAY, LEVAIN);
            doFold();
            super.doLay(shelf, place);
        }

        @Override
        int askWorth() {
            book.begin(WORTH, LEVAIN);
            int weighed = isDoneByCrust() ? 5 : 0;
            return super.askWorth() + weighed;
        }
    }
}

/** Promises 1 (a new object), 2 (loaf) and 16 (tell). */
public final class LoavesTest {
    public static void main(String[] args) {
        Due due = new Due("LoavesTest");
        newObject(due);
        loafEdges(due);
        room(due);
        tell(due);
        due.end();
    }

    private static void newObject(Due due) {
        BakeHouse x = new BakeHouse();
        for (int what = 0; what <= 4; what++) {
            int w = what;
            due.answer("1: count(" + w + ") of a new object", 0, () -> x.count(w));
        }
        for (int k = 0; k < 4; k++) {
            int shelf = k;
            due.answer("1: places(" + k + ") of a new object", BakeHouse.NONE, () -> x.places(shelf));
            due.answer("1: out(" + k + ") of a new object", 0, () -> x.out(shelf));
        }
        due.answer("1: book(0) of a new object", BakeHouse.NONE, () -> x.book(0));
        due.answer("1: tell(0, 0) of a new object", BakeHouse.UNKNOWN, () -> x.tell(0, 0));
        due.answer("1: night(600) of a new object", 0, () -> x.night(600));
        due.answer("1: fire(400) of a new object", 0, () -> x.fire(400));
        BakeHouse full = House.with(House.DOUGH, 1);
        full.fold(0);
        due.answer("1: another object's loaves are not its own", 0, () -> new BakeHouse().count(0));
    }

    private static void loafEdges(Due due) {
        BakeHouse x = new BakeHouse();
        for (int kind : new int[] {-1, 8, House.LOW, House.HIGH}) {
            due.answer("2: loaf(" + kind + ", 1)", BakeHouse.OUTSIDE, () -> x.loaf(kind, 1));
        }
        for (int mass : new int[] {0, -1, 2001, House.LOW, House.HIGH}) {
            due.answer("2: loaf(0, " + mass + ")", BakeHouse.OUTSIDE, () -> x.loaf(0, mass));
        }
        due.answer("2: refused loaves are none", 0, () -> x.count(House.LOAVES));
        for (int kind = 0; kind <= 7; kind++) {
            int of = kind;
            int mass = kind % 2 == 0 ? 1 : 2000;
            due.answer("2: loaf(" + kind + ", " + mass + ")", kind, () -> x.loaf(of, mass));
            due.answer("2: its kind", kind, () -> x.tell(of, House.KIND));
            due.answer("2: its mass", mass, () -> x.tell(of, House.MASS));
            due.holds("2: the rest of it is 0", House.state(x, kind).equals("0 0 0 0"));
        }
        due.answer("2: no rule began", 0, () -> x.count(House.RULES));
    }

    private static void room(Due due) {
        BakeHouse x = new BakeHouse();
        for (int number = 0; number < 20; number++) {
            int mass = 100 + number;
            due.answer("2: loaf " + number, number, () -> x.loaf(House.RYE, mass));
        }
        due.answer("2: a loaf too many", BakeHouse.ROOM, () -> x.loaf(House.RYE, 5));
        due.answer("2: OUTSIDE (kind) ahead of ROOM", BakeHouse.OUTSIDE, () -> x.loaf(8, 5));
        due.answer("2: OUTSIDE (mass) ahead of ROOM", BakeHouse.OUTSIDE, () -> x.loaf(0, 2001));
        due.answer("2: 20 loaves", 20, () -> x.count(House.LOAVES));
        due.answer("2: the last one stands", 119, () -> x.tell(19, House.MASS));
        due.answer("2: none behind it", BakeHouse.UNKNOWN, () -> x.tell(20, House.MASS));
    }

    private static void tell(Due due) {
        BakeHouse x = House.with(House.SOUR, 777);
        x.rest(0, 600);
        x.rest(0, 600);
        x.fold(0);
        x.bake(0, 400);
        int[] want = {House.SOUR, 777, 50, 1, 1, 42};
        for (int what = 0; what <= 5; what++) {
            int w = what;
            due.answer("16: tell(0, " + what + ")", want[what], () -> x.tell(0, w));
        }
        for (int what : new int[] {-1, 6, House.LOW, House.HIGH}) {
            due.answer("16: tell(0, " + what + ")", BakeHouse.OUTSIDE, () -> x.tell(0, what));
            due.answer("16: UNKNOWN ahead of OUTSIDE", BakeHouse.UNKNOWN, () -> x.tell(1, what));
        }
        for (int loaf : new int[] {-1, 1, 20, House.LOW, House.HIGH}) {
            due.answer("16: tell(" + loaf + ", 0)", BakeHouse.UNKNOWN, () -> x.tell(loaf, 0));
        }
    }
}

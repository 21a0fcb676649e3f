/** Promises 8 (bake) and 12 (fire). */
public final class BakeTest {
    public static void main(String[] args) {
        Due due = new Due("BakeTest");
        codes(due);
        plainKinds(due);
        rye(due);
        sweet(due);
        sour(due);
        flat(due);
        fire(due);
        fireOrder(due);
        due.end();
    }

    private static void codes(Due due) {
        BakeHouse x = House.with(House.FLAT, 10);
        x.shelf(0, 1);
        x.lay(0, 0, 0);
        for (int loaf : new int[] {-1, 1, 20, House.LOW, House.HIGH}) {
            due.answer("8: bake(" + loaf + ", 1)", BakeHouse.UNKNOWN, () -> x.bake(loaf, 1));
            due.answer("8: bake(" + loaf + ", 401), UNKNOWN ahead of OUTSIDE", BakeHouse.UNKNOWN, () -> x.bake(loaf, 401));
        }
        for (int heat : new int[] {-1, 401, House.LOW, House.HIGH}) {
            due.answer("8: bake(0, " + heat + ")", BakeHouse.OUTSIDE, () -> x.bake(0, heat));
            due.answer("12: fire(" + heat + ")", BakeHouse.OUTSIDE, () -> x.fire(heat));
        }
        due.holds("8, 12: nothing is changed", House.state(x, 0).equals("0 0 0 0") && House.book(x).equals("20 26"));
    }

    private static void plainKinds(Due due) {
        for (int kind : new int[] {House.DOUGH, House.LEAVENED}) {
            BakeHouse x = House.with(kind, 10);
            due.answer("8: heat 0", 0, () -> x.bake(0, 0));
            due.answer("8: heat 199, cut to 19", 0, () -> x.bake(0, 199));
            due.answer("8: CRUST is 19", 19, () -> x.tell(0, House.CRUST));
            x.rest(0, 24);
            due.answer("8: heat 6 and AIR 4: done at 20", 1, () -> x.bake(0, 6));
            due.answer("8: heat 400", 1, () -> x.bake(0, 400));
            due.holds("8: its state", House.state(x, 0).equals("4 0 0 60"));
            due.holds("8: by the rule of DOUGH", House.book(x).equals("30 30 0 30 30"));
        }
    }

    private static void rye(Due due) {
        BakeHouse x = House.with(House.RYE, 10);
        due.answer("8: RYE at 229", 0, () -> x.bake(0, 229));
        due.answer("8: CRUST is 19", 19, () -> x.tell(0, House.CRUST));
        due.answer("8: RYE at 40", 1, () -> x.bake(0, 40));
        due.answer("8: RYE at 21, cut toward 0", 1, () -> x.bake(0, 21));
        due.answer("8: RYE at 20, 1 less", 0, () -> x.bake(0, 20));
        due.answer("8: RYE at 0, 3 less", 0, () -> x.bake(0, 0));
        due.answer("8: CRUST is 16", 16, () -> x.tell(0, House.CRUST));
        due.holds("8: RYE ahead of DOUGH", House.book(x).equals("30 32 30 32 30 32 30 32 30 32"));
        BakeHouse raw = House.with(House.RYE, 10);
        raw.bake(0, 0);
        due.answer("8: CRUST goes below 0", -3, () -> raw.tell(0, House.CRUST));
    }

    private static void sweet(Due due) {
        for (int kind : new int[] {House.SWEET, House.BRIOCHE}) {
            BakeHouse x = House.with(kind, 10);
            due.answer("8: SWEET at 199", 0, () -> x.bake(0, 199));
            due.answer("8: SWEET at 10", 1, () -> x.bake(0, 10));
            due.answer("8: SWEET at 400: CRUST 60", 1, () -> x.bake(0, 400));
            due.answer("8: SWEET at 10: CRUST 61", 0, () -> x.bake(0, 10));
            due.answer("8: CRUST is 61", 61, () -> x.tell(0, House.CRUST));
            due.holds("8: SWEET ahead of DOUGH", House.book(x).equals("30 33 30 33 30 33 30 33"));
        }
    }

    private static void sour(Due due) {
        for (int kind : new int[] {House.SOUR, House.LEVAIN}) {
            BakeHouse x = House.with(kind, 10);
            for (int i = 0; i < 5; i++) {
                x.rest(0, 0);
            }
            due.answer("8: SOUR with ACID 5", 0, () -> x.bake(0, 130));
            x.rest(0, 0);
            due.answer("8: SOUR with ACID 6", 1, () -> x.bake(0, 40));
            due.answer("8: UNDER was asked all the same", 11, () -> x.tell(0, House.CRUST));
            due.answer("17: DOUGH", 30, () -> x.book(0));
            due.answer("17: behind RYE", 32, () -> x.book(1));
            due.answer("17: behind SOUR", 34, () -> x.book(2));
            x.fold(0);
            due.answer("8: SOUR with ACID 5 again", 0, () -> x.bake(0, 30));
            due.answer("8: SOUR by its CRUST", 1, () -> x.bake(0, 120));
        }
    }

    private static void flat(Due due) {
        BakeHouse x = House.with(House.FLAT, 10);
        due.answer("8: FLAT at 99", 0, () -> x.bake(0, 99));
        due.answer("8: CRUST is 19", 19, () -> x.tell(0, House.CRUST));
        x.rest(0, 12);
        due.answer("8: FLAT at 4, AIR is not doubled", 1, () -> x.bake(0, 4));
        due.answer("8: CRUST is 20", 20, () -> x.tell(0, House.CRUST));
        due.holds("8: FLAT ahead of DOUGH", House.book(x).equals("30 36 0 30 36"));
        x.bake(0, 400);
        due.answer("8: FLAT at 400", 100, () -> x.tell(0, House.CRUST));
    }

    private static void fire(Due due) {
        BakeHouse x = House.with(House.DOUGH, 10);
        x.loaf(House.SWEET, 10);
        x.loaf(House.DOUGH, 10);
        x.shelf(0, 2);
        x.shelf(3, 8);
        x.lay(0, 0, 1);
        x.lay(0, 3, 7);
        x.lay(1, 3, 0);
        due.answer("12: DOUGH is done in its second place alone", 1, () -> x.fire(100));
        due.answer("12: who lies in two places is baked twice", 20, () -> x.tell(0, House.CRUST));
        due.answer("12: SWEET once", 10, () -> x.tell(1, House.CRUST));
        due.answer("12: who does not lie is not baked", 0, () -> x.tell(2, House.CRUST));
        due.answer("12: all done", 3, () -> x.fire(400));
        due.answer("12: SWEET is burnt", 2, () -> x.fire(400));
        due.answer("12: all lie as they lay", 0, () -> x.at(3, 7));
        due.answer("12: heat 0", 2, () -> x.fire(0));
        BakeHouse full = House.with(House.DOUGH, 10);
        for (int k = 0; k < 4; k++) {
            full.shelf(k, 8);
            for (int place = 0; place < 8; place++) {
                full.lay(0, k, place);
            }
        }
        due.answer("12: a full oven, done from the second place on", 31, () -> full.fire(100));
        due.answer("12: baked 32 times", 320, () -> full.tell(0, House.CRUST));
    }

    private static void fireOrder(Due due) {
        BakeHouse x = House.with(House.RYE, 10);
        x.loaf(House.SWEET, 10);
        x.loaf(House.FLAT, 10);
        x.loaf(House.SOUR, 10);
        x.shelf(2, 2);
        x.shelf(1, 2);
        x.lay(0, 2, 1);
        x.lay(1, 1, 1);
        x.lay(2, 2, 0);
        x.lay(3, 1, 0);
        String before = House.book(x);
        x.fire(50);
        due.holds("12: shelf by shelf, place by place: " + House.book(x),
            House.book(x).equals("30 32 30 36 30 33 30 32 34 " + before));
    }
}

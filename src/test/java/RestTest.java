/** Promises 5 (rest) and 13 (night). */
public final class RestTest {
    public static void main(String[] args) {
        Due due = new Due("RestTest");
        codes(due);
        plainKinds(due);
        sourKinds(due);
        brioche(due);
        night(due);
        due.end();
    }

    private static void codes(Due due) {
        BakeHouse x = House.with(House.SOUR, 10);
        for (int loaf : new int[] {-1, 1, 20, House.LOW, House.HIGH}) {
            due.answer("5: rest(" + loaf + ", 6)", BakeHouse.UNKNOWN, () -> x.rest(loaf, 6));
            due.answer("5: rest(" + loaf + ", 601), UNKNOWN ahead of OUTSIDE", BakeHouse.UNKNOWN, () -> x.rest(loaf, 601));
        }
        for (int m : new int[] {-1, 601, House.LOW, House.HIGH}) {
            due.answer("5: rest(0, " + m + ")", BakeHouse.OUTSIDE, () -> x.rest(0, m));
            due.answer("13: night(" + m + ")", BakeHouse.OUTSIDE, () -> x.night(m));
        }
        due.holds("5, 13: nothing is changed", House.state(x, 0).equals("0 0 0 0") && House.book(x).equals(""));
    }

    private static void plainKinds(Due due) {
        for (int kind : new int[] {House.DOUGH, House.LEAVENED, House.SWEET, House.FLAT}) {
            BakeHouse x = House.with(kind, 10);
            due.answer("5: kind " + kind + " rests 0", 0, () -> x.rest(0, 0));
            due.answer("5: kind " + kind + " rests 5", 0, () -> x.rest(0, 5));
            due.answer("5: kind " + kind + " rests 11", 1, () -> x.rest(0, 11));
            due.answer("5: kind " + kind + " rests 593", 99, () -> x.rest(0, 593));
            due.answer("5: kind " + kind + " has 100 at most", 100, () -> x.rest(0, 600));
            due.answer("5: and 100 again", 100, () -> x.rest(0, 6));
            due.holds("5: all by the rule of DOUGH", House.book(x).equals("0 0 0 0 0 0"));
        }
        BakeHouse rye = House.with(House.RYE, 10);
        due.answer("5: RYE rests 600", 50, () -> rye.rest(0, 600));
        due.answer("5: RYE rests 13, halved and cut first", 51, () -> rye.rest(0, 13));
        due.answer("5: RYE rests 11", 51, () -> rye.rest(0, 11));
        due.holds("5: RYE ahead of DOUGH", House.book(rye).equals("0 2 0 2 0 2"));
    }

    private static void sourKinds(Due due) {
        BakeHouse sour = House.with(House.SOUR, 10);
        due.answer("5: SOUR rests 120", 10, () -> sour.rest(0, 120));
        due.holds("5: its rules", House.book(sour).equals("0 2 4"));
        due.answer("5: SOUR rests 11, its ACID is no minute", 10, () -> sour.rest(0, 11));
        due.answer("5: ACID is 1 more each time", 2, () -> sour.tell(0, House.ACID));

        BakeHouse levain = House.with(House.LEVAIN, 10);
        due.answer("5: LEVAIN rests 11, its ACID is 0 ahead", 0, () -> levain.rest(0, 11));
        due.holds("5: its rules", House.book(levain).equals("0 2 4 7"));
        due.answer("5: LEVAIN rests 11, its ACID is 1 ahead", 1, () -> levain.rest(0, 11));
        due.answer("5: LEVAIN rests 9, its ACID is 2 ahead", 1, () -> levain.rest(0, 9));
        due.answer("5: LEVAIN rests 9, its ACID is 3 ahead", 2, () -> levain.rest(0, 9));
        due.holds("5: its state", House.state(levain, 0).equals("2 0 4 0"));
    }

    private static void brioche(Due due) {
        BakeHouse x = House.with(House.BRIOCHE, 10);
        due.answer("5: BRIOCHE rests 539", 89, () -> x.rest(0, 539));
        due.holds("5: its rules", House.book(x).equals("0 5"));
        due.answer("18: it is not fallen", 0, () -> x.count(House.FALLEN));
        due.thrown("5: at 90 it falls", IllegalStateException.class, House.TEXT_FALLEN, () -> x.rest(0, 6));
        due.holds("5: AIR is 10 then", House.state(x, 0).equals("10 0 0 0"));
        due.answer("18: it counts", 1, () -> x.count(House.FALLEN));
        due.answer("5: it rests again", 10, () -> x.rest(0, 0));
        due.thrown("5: far above 90", IllegalStateException.class, House.TEXT_FALLEN, () -> x.rest(0, 600));
        due.answer("18: twice", 2, () -> x.count(House.FALLEN));
        due.holds("5: its rules stay in the book", House.book(x).equals("0 5 0 5 0 5 0 5"));
        due.answer("5: UNKNOWN ahead of what is thrown", BakeHouse.UNKNOWN, () -> x.rest(1, 600));
    }

    private static void night(Due due) {
        BakeHouse x = new BakeHouse();
        x.loaf(House.BRIOCHE, 10);
        x.loaf(House.RYE, 10);
        x.loaf(House.BRIOCHE, 10);
        x.loaf(House.LEVAIN, 10);
        x.rest(2, 60);
        due.answer("13: night(480)", 1, () -> x.night(480));
        due.answer("13: the first one has not fallen", 80, () -> x.tell(0, House.AIR));
        due.answer("13: RYE rested", 40, () -> x.tell(1, House.AIR));
        due.answer("13: the third one has", 10, () -> x.tell(2, House.AIR));
        due.holds("13: the one behind it rested too", House.state(x, 3).equals("40 0 1 0"));
        due.holds("13: by numbers", House.book(x).equals("0 2 4 7 0 5 0 2 0 5 0 5"));
        due.answer("18: FALLEN of the night", 1, () -> x.count(House.FALLEN));
        due.answer("13: night(600)", 2, () -> x.night(600));
        due.answer("18: FALLEN of both nights", 3, () -> x.count(House.FALLEN));
        due.answer("13: night(0)", 0, () -> x.night(0));
        BakeHouse many = new BakeHouse();
        for (int i = 0; i < 20; i++) {
            many.loaf(House.BRIOCHE, 10);
        }
        due.answer("13: all 20 fall", 20, () -> many.night(540));
    }
}

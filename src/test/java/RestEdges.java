/** The edges of promises 5 (rest) and 13 (night), and of the rule that each REST is done by. */
final class RestEdges {
    private static final Class<IllegalStateException> FALLEN = IllegalStateException.class;
    private static final int[] NO_MINUTES = {-1, 601, House.LOW, House.HIGH};

    private RestEdges() {
    }

    static void run(Edges edges) {
        edges.edge(5, "An ACT of a LOAF is done by the RULE that its KIND tells, or, if it tells none, by that of the"
            + " KIND under it, and so on (each ACT has one at DOUGH)", RestEdges::whoTells);
        edges.edge(5, "UNDER, in a RULE, is the ACT as the KIND under that which tells the RULE has it, for the same"
            + " LOAF", RestEdges::under);
        edges.edge(5, "REST (of m minutes, a number). DOUGH: AIR is m / 6 more, 100 at most", RestEdges::airAtMost);
        edges.edge(5, "it gives AIR", RestEdges::givesAir);
        edges.edge(5, "RYE: UNDER of m / 2", RestEdges::rye);
        edges.edge(5, "SOUR: ACID is 1 more", RestEdges::sourAcid);
        edges.edge(5, "1 more; UNDER of m.", RestEdges::sourUnder);
        edges.edge(5, "BRIOCHE: UNDER of m", RestEdges::briocheUnder);
        edges.edge(5, "if AIR is 90 or more then, AIR is 10, and it is FALLEN", RestEdges::briocheFalls);
        edges.edge(5, "else it gives what UNDER gave", RestEdges::briocheStands);
        edges.edge(5, "LEVAIN: UNDER of m + ACID (as that is ahead of it)", RestEdges::levain);
        edges.edge(5, "REST of m minutes (0 .. 600)", RestEdges::minutes);
        edges.edge(5, "UNKNOWN", RestEdges::unknown);
        edges.edge(5, "OUTSIDE", RestEdges::outside);
        edges.edge(5, "IllegalStateException: FALLEN", RestEdges::thrown);
        edges.edge(13, "All LOAVES REST m minutes (0 .. 600), by numbers", RestEdges::night);
        edges.edge(13, "who is FALLEN counts: how many", RestEdges::nightFalls);
        edges.edge(13, "OUTSIDE", RestEdges::nightOutside);
    }

    private static void whoTells(Due due) {
        String[] rules = {"0", "0", "0 2", "0", "0 2 4", "0 5", "0", "0 2 4 7"};
        for (int kind = House.DOUGH; kind <= House.LEVAIN; kind++) {
            BakeHouse x = House.with(kind, 5);
            x.rest(0, 0);
            due.same("the rules of REST of KIND " + kind, rules[kind], House.book(x));
        }
    }

    private static void under(Due due) {
        BakeHouse x = House.with(House.SOUR, 5);
        x.loaf(House.LEVAIN, 5);
        x.loaf(House.RYE, 5);
        due.answer("rest(1, 600), once through each KIND under LEVAIN", 50, () -> x.rest(1, 600));
        due.same("LOAF 1, sour by 1 and halved once", "50 0 1 0", House.state(x, 1));
        due.same("LOAF 0, which did not rest", "0 0 0 0", House.state(x, 0));
        due.same("LOAF 2, which did not rest", "0 0 0 0", House.state(x, 2));
        due.same("THE BOOK", "0 2 4 7", House.book(x));
    }

    private static void airAtMost(Due due) {
        due.pairs("rest(0, ?) of a new LOAF", new int[][] {{0, 0}, {5, 0}, {6, 1}, {11, 1}, {12, 2}, {593, 98},
            {594, 99}, {599, 99}, {600, 100}}, m -> House.with(House.DOUGH, 5).rest(0, m));
        BakeHouse x = House.with(House.DOUGH, 5);
        x.rest(0, 594);
        due.answer("rest(0, 5) of AIR 99", 99, () -> x.rest(0, 5));
        due.answer("rest(0, 6) of AIR 99, to the most", 100, () -> x.rest(0, 6));
        due.answer("rest(0, 6) of AIR 100", 100, () -> x.rest(0, 6));
        due.answer("rest(0, 600) of AIR 100", 100, () -> x.rest(0, 600));
        due.answer("AIR", 100, () -> x.tell(0, House.AIR));
        BakeHouse over = House.with(House.DOUGH, 5);
        over.rest(0, 594);
        due.answer("rest(0, 12) of AIR 99, past the most", 100, () -> over.rest(0, 12));
    }

    private static void givesAir(Due due) {
        for (int kind = House.DOUGH; kind <= House.LEVAIN; kind++) {
            BakeHouse x = House.with(kind, 5);
            int halved = kind == House.RYE || kind == House.SOUR || kind == House.LEVAIN ? 2 : 1;
            due.answer("rest(0, 240) of KIND " + kind, 40 / halved, () -> x.rest(0, 240));
            due.answer("rest(0, 0), all the AIR and not what came to it", 40 / halved, () -> x.rest(0, 0));
            due.answer("AIR", 40 / halved, () -> x.tell(0, House.AIR));
        }
    }

    private static void rye(Due due) {
        due.pairs("rest(0, ?) of a new RYE", new int[][] {{0, 0}, {1, 0}, {11, 0}, {12, 1}, {13, 1}, {23, 1}, {24, 2},
            {599, 49}, {600, 50}}, m -> House.with(House.RYE, 5).rest(0, m));
        BakeHouse x = House.with(House.RYE, 5);
        x.rest(0, 600);
        x.rest(0, 599);
        due.answer("rest(0, 12) of AIR 99", 100, () -> x.rest(0, 12));
        due.answer("rest(0, 600) of AIR 100", 100, () -> x.rest(0, 600));
        due.answer("ACID, which RYE has none of", 0, () -> x.tell(0, House.ACID));
    }

    private static void sourAcid(Due due) {
        BakeHouse x = House.with(House.SOUR, 5);
        x.rest(0, 0);
        due.answer("ACID after no minutes", 1, () -> x.tell(0, House.ACID));
        x.rest(0, 600);
        due.answer("ACID after 600 more, 1 and no more", 2, () -> x.tell(0, House.ACID));
        x.rest(0, 600);
        x.rest(0, 600);
        due.same("the state with all the AIR there is", "100 0 4 0", House.state(x, 0));
        for (int i = 0; i < 200; i++) {
            x.rest(0, 0);
        }
        due.answer("ACID, which has no most", 204, () -> x.tell(0, House.ACID));
        due.answer("rest(0, 601), refused", BakeHouse.OUTSIDE, () -> x.rest(0, 601));
        due.answer("ACID, not more by what is refused", 204, () -> x.tell(0, House.ACID));
    }

    private static void sourUnder(Due due) {
        due.pairs("rest(0, ?) of a new SOUR", new int[][] {{11, 0}, {12, 1}, {599, 49}, {600, 50}},
            m -> House.with(House.SOUR, 5).rest(0, m));
        BakeHouse x = House.with(House.SOUR, 5);
        for (int i = 0; i < 12; i++) {
            x.rest(0, 0);
        }
        due.answer("rest(0, 11) of ACID 12, which is no minute of SOUR", 0, () -> x.rest(0, 11));
    }

    private static void briocheUnder(Due due) {
        due.pairs("rest(0, ?) of a new BRIOCHE", new int[][] {{0, 0}, {5, 0}, {6, 1}, {533, 88}, {534, 89}, {539, 89}},
            m -> House.with(House.BRIOCHE, 5).rest(0, m));
        BakeHouse x = House.with(House.BRIOCHE, 5);
        Due.outcome(() -> x.rest(0, 600));
        due.same("the rules of one that falls", "0 5", House.book(x));
    }

    private static void briocheFalls(Due due) {
        for (int m : new int[] {540, 545, 594, 600}) {
            BakeHouse x = House.with(House.BRIOCHE, 5);
            due.thrown("rest(0, " + m + ")", FALLEN, House.TEXT_FALLEN, () -> x.rest(0, m));
            due.same("its state then", "10 0 0 0", House.state(x, 0));
            due.answer("count(2)", 1, () -> x.count(House.FALLEN));
        }
        BakeHouse slow = House.with(House.BRIOCHE, 5);
        slow.rest(0, 534);
        due.answer("rest(0, 5) of AIR 89", 89, () -> slow.rest(0, 5));
        due.thrown("rest(0, 6) of AIR 89", FALLEN, House.TEXT_FALLEN, () -> slow.rest(0, 6));
        due.answer("rest(0, 479) of AIR 10", 89, () -> slow.rest(0, 479));
        due.thrown("rest(0, 600) of AIR 89", FALLEN, House.TEXT_FALLEN, () -> slow.rest(0, 600));
        due.thrown("rest(0, 480) of AIR 10", FALLEN, House.TEXT_FALLEN, () -> slow.rest(0, 480));
        due.answer("AIR", 10, () -> slow.tell(0, House.AIR));
        for (int kind : new int[] {House.DOUGH, House.LEAVENED, House.SWEET, House.FLAT}) {
            due.answer("rest(0, 540) of KIND " + kind + ", which does not fall", 90, () -> House.with(kind, 5).rest(0, 540));
        }
    }

    private static void briocheStands(Due due) {
        BakeHouse x = House.with(House.BRIOCHE, 5);
        due.answer("rest(0, 539)", 89, () -> x.rest(0, 539));
        due.answer("rest(0, 0)", 89, () -> x.rest(0, 0));
        due.same("its state", "89 0 0 0", House.state(x, 0));
        due.answer("count(2)", 0, () -> x.count(House.FALLEN));
    }

    private static void levain(Due due) {
        BakeHouse x = House.with(House.LEVAIN, 5);
        due.answer("rest(0, 11) of ACID 0: the ACID ahead of it counts, not that behind it", 0, () -> x.rest(0, 11));
        due.answer("rest(0, 11) of ACID 1", 1, () -> x.rest(0, 11));
        due.answer("rest(0, 9) of ACID 2", 1, () -> x.rest(0, 9));
        due.answer("rest(0, 9) of ACID 3", 2, () -> x.rest(0, 9));
        BakeHouse old = House.with(House.LEVAIN, 5);
        for (int i = 0; i < 12; i++) {
            old.rest(0, 0);
        }
        old.fold(0);
        old.fold(0);
        old.fold(0);
        due.same("its state: 11 of ACID are no AIR yet", "0 3 9 0", House.state(old, 0));
        old.rest(0, 0);
        old.rest(0, 0);
        old.rest(0, 0);
        due.answer("rest(0, 600) of ACID 12: 612 minutes, which are not refused", 51, () -> old.rest(0, 600));
        for (int i = 0; i < 10; i++) {
            old.rest(0, 600);
        }
        due.answer("AIR, 100 at most", 100, () -> old.tell(0, House.AIR));
    }

    private static void minutes(Due due) {
        BakeHouse x = House.with(House.DOUGH, 5);
        due.pairs("rest(0, ?)", new int[][] {{-1, BakeHouse.OUTSIDE}, {0, 0}, {1, 0}, {600, 100},
            {601, BakeHouse.OUTSIDE}}, m -> x.rest(0, m));
        due.same("THE BOOK, with the three that were not refused", "0 0 0", House.book(x));
    }

    private static void unknown(Due due) {
        BakeHouse x = House.with(House.BRIOCHE, 5);
        due.unchanged(x, () -> {
            due.each("rest(?, 0)", BakeHouse.UNKNOWN, House.NO_LOAVES, loaf -> x.rest(loaf, 0));
            due.each("rest(?, 600), ahead of FALLEN", BakeHouse.UNKNOWN, House.NO_LOAVES, loaf -> x.rest(loaf, 600));
            due.each("rest(?, 601), ahead of OUTSIDE", BakeHouse.UNKNOWN, House.NO_LOAVES, loaf -> x.rest(loaf, 601));
            due.each("rest(?, -1), ahead of OUTSIDE", BakeHouse.UNKNOWN, House.NO_LOAVES, loaf -> x.rest(loaf, -1));
        });
    }

    private static void outside(Due due) {
        for (int kind = House.DOUGH; kind <= House.LEVAIN; kind++) {
            BakeHouse x = House.with(kind, 5);
            x.rest(0, 60);
            due.unchanged(x, () -> due.each("rest(0, ?)", BakeHouse.OUTSIDE, NO_MINUTES, m -> x.rest(0, m)));
        }
    }

    private static void thrown(Due due) {
        BakeHouse x = House.with(House.BRIOCHE, 5);
        due.thrown("rest(0, 600)", FALLEN, House.TEXT_FALLEN, () -> x.rest(0, 600));
        due.answer("rest(0, 0) behind it, which does not throw", 10, () -> x.rest(0, 0));
        due.answer("rest(0, 601), OUTSIDE ahead of it", BakeHouse.OUTSIDE, () -> x.rest(0, 601));
        due.answer("count(2)", 1, () -> x.count(House.FALLEN));
    }

    private static void night(Due due) {
        BakeHouse none = new BakeHouse();
        due.answer("night(600) without a LOAF", 0, () -> none.night(600));
        BakeHouse x = new BakeHouse();
        for (int kind = House.LEVAIN; kind >= House.DOUGH; kind--) {
            x.loaf(kind, 5);
        }
        due.answer("night(0)", 0, () -> x.night(0));
        due.same("THE BOOK, the last LOAF's rule first", "0 0 0 2 0 0 2 4 0 5 0 0 2 4 7", House.book(x));
        due.answer("ACID of the LEVAIN after no minutes", 1, () -> x.tell(0, House.ACID));
        due.answer("night(539)", 0, () -> x.night(539));
        due.pairs("AIR of LOAF ?", new int[][] {{0, 45}, {1, 89}, {2, 89}, {3, 44}, {4, 89}, {5, 44}, {6, 89}, {7, 89}},
            loaf -> x.tell(loaf, House.AIR));
        due.answer("night(600)", 1, () -> x.night(600));
        due.pairs("AIR of LOAF ?", new int[][] {{0, 95}, {1, 100}, {2, 10}, {3, 94}, {4, 100}, {5, 94}, {6, 100}, {7, 100}},
            loaf -> x.tell(loaf, House.AIR));
        BakeHouse full = new BakeHouse();
        for (int i = 0; i < 20; i++) {
            full.loaf(House.DOUGH, 5);
        }
        full.night(600);
        due.answer("AIR of the last of 20", 100, () -> full.tell(19, House.AIR));
        due.answer("count(1)", 20, () -> full.count(House.RULES));
    }

    private static void nightFalls(Due due) {
        BakeHouse x = new BakeHouse();
        for (int i = 0; i < 20; i++) {
            x.loaf(i == 0 || i == 19 ? House.DOUGH : House.BRIOCHE, 5);
        }
        due.answer("night(539), where none falls", 0, () -> x.night(539));
        due.answer("night(6), where 18 fall at 90", 18, () -> x.night(6));
        due.answer("count(2)", 18, () -> x.count(House.FALLEN));
        due.answer("AIR of the last LOAF, which rested behind them", 90, () -> x.tell(19, House.AIR));
        due.answer("night(6), where none falls again", 0, () -> x.night(6));
        due.answer("night(600)", 18, () -> x.night(600));
        due.answer("count(2)", 36, () -> x.count(House.FALLEN));
        due.answer("AIR of a fallen one", 10, () -> x.tell(18, House.AIR));
    }

    private static void nightOutside(Due due) {
        BakeHouse x = House.with(House.BRIOCHE, 5);
        x.loaf(House.SOUR, 5);
        x.rest(0, 534);
        due.unchanged(x, () -> due.each("night(?)", BakeHouse.OUTSIDE, NO_MINUTES, x::night));
        due.answer("night(601) without a LOAF", BakeHouse.OUTSIDE, () -> new BakeHouse().night(601));
    }
}

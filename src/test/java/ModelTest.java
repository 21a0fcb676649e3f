import java.util.Random;

/** Promises 1 to 18 together: long runs of calls, the same on the class and on the model, with the same answers. */
public final class ModelTest {
    private static final int RUNS = 4000, CALLS = 230;
    private static final int[] ODD = {Integer.MIN_VALUE, -2, -1, 0, 1, 2, 5, 8, 9, 20, 21, Integer.MAX_VALUE};

    private final Random random;
    private final BakeHouse house = new BakeHouse();
    private final Model model = new Model();
    private final StringBuilder calls = new StringBuilder();
    private int made = 0;
    private String wrong = null;

    private ModelTest(int run) {
        random = new Random(run);
    }

    public static void main(String[] args) {
        Due due = new Due("ModelTest");
        for (int run = 0; run < RUNS; run++) {
            ModelTest it = new ModelTest(run);
            it.play(run);
            due.holds("run " + run + ": " + it.wrong, it.wrong == null);
            due.holds("run " + run + " keeps within 512 calls: " + it.made, it.made <= 512);
        }
        due.end();
    }

    private void play(int run) {
        int oneKind = run % 16;
        int loaves = 1 + random.nextInt(run % 5 == 0 ? 22 : 6);
        for (int i = 0; i < loaves; i++) {
            int kind = oneKind < 8 ? oneKind : random.nextInt(8);
            int mass = 1 + random.nextInt(2000);
            same("loaf " + kind + " " + mass, () -> house.loaf(kind, mass), () -> model.loaf(kind, mass));
        }
        for (int i = 0; i < CALLS && wrong == null; i++) {
            step();
        }
        if (wrong == null) {
            lookAtAll();
        }
    }

    private void step() {
        int what = random.nextInt(40);
        int loaf = pick(-1, 6);
        int k = pick(-1, 4);
        if (what < 6) {
            int m = random.nextBoolean() ? pick(0, 600) : pick(0, 30);
            same("rest " + loaf + " " + m, () -> house.rest(loaf, m), () -> model.rest(loaf, m));
        } else if (what < 9) {
            same("fold " + loaf, () -> house.fold(loaf), () -> model.fold(loaf));
        } else if (what < 17) {
            int place = pick(-3, 17);
            same("lay " + loaf + " " + k + " " + place, () -> house.lay(loaf, k, place), () -> model.lay(loaf, k, place));
        } else if (what < 21) {
            int heat = random.nextBoolean() ? pick(0, 400) : pick(0, 40);
            same("bake " + loaf + " " + heat, () -> house.bake(loaf, heat), () -> model.bake(loaf, heat));
        } else if (what < 24) {
            same("worth " + loaf, () -> house.worth(loaf), () -> model.worth(loaf));
        } else if (what < 26) {
            same("cost " + loaf, () -> house.cost(loaf), () -> model.cost(loaf));
        } else if (what < 29) {
            int coins = pick(0, 300);
            same("change " + loaf + " " + coins, () -> house.change(loaf, coins), () -> model.change(loaf, coins));
        } else {
            stepOfHouse(what, k);
        }
    }

    private void stepOfHouse(int what, int k) {
        if (what < 32) {
            int n = pick(-1, 9);
            same("shelf " + k + " " + n, () -> house.shelf(k, n), () -> model.shelf(k, n));
        } else if (what < 33) {
            same("out " + k, () -> house.out(k), () -> model.out(k));
        } else if (what < 34) {
            int heat = pick(0, 60);
            same("fire " + heat, () -> house.fire(heat), () -> model.fire(heat));
        } else if (what < 35) {
            int m = pick(0, 600);
            same("night " + m, () -> house.night(m), () -> model.night(m));
        } else if (what < 37) {
            int place = pick(-1, 8);
            same("at " + k + " " + place, () -> house.at(k, place), () -> model.at(k, place));
        } else if (what < 38) {
            int tell = pick(-1, 6);
            same("tell 0 " + tell, () -> house.tell(0, tell), () -> model.tell(0, tell));
        } else {
            int i = pick(0, 102);
            same("book " + i, () -> house.book(i), () -> model.book(i));
        }
    }

    private void lookAtAll() {
        for (int i = 0; i <= 100; i++) {
            int row = i;
            same("book " + i, () -> house.book(row), () -> model.book(row));
        }
        for (int what = 0; what < 5; what++) {
            int w = what;
            same("count " + what, () -> house.count(w), () -> model.count(w));
        }
        for (int k = 0; k < 4; k++) {
            int shelf = k;
            same("places " + k, () -> house.places(shelf), () -> model.places(shelf));
            for (int place = 0; place < 8; place++) {
                int of = place;
                same("at " + k + " " + place, () -> house.at(shelf, of), () -> model.at(shelf, of));
            }
        }
        for (int loaf = 0; loaf < 20; loaf++) {
            for (int what = 2; what < 6; what++) {
                int of = loaf;
                int w = what;
                same("tell " + loaf + " " + what, () -> house.tell(of, w), () -> model.tell(of, w));
            }
        }
    }

    private int pick(int least, int most) {
        if (random.nextInt(25) == 0) {
            return ODD[random.nextInt(ODD.length)];
        }
        return least + random.nextInt(most - least + 1);
    }

    private void same(String call, Due.Call real, Due.Call due) {
        made++;
        String answered = Due.outcome(real);
        String got = byMachine(answered) ? "the machine's " + answered : kindOf(answered);
        String want = kindOf(Due.outcome(due));
        calls.append(call).append("; ");
        if (wrong == null && !got.equals(want)) {
            wrong = calls + "answered " + got + ", due is " + want;
        }
    }

    /** What the class throws itself bears one of its own texts. */
    private static boolean byMachine(String outcome) {
        int end = outcome.indexOf(": ");
        return end >= 0 && !House.TEXTS.contains(outcome.substring(end + 2));
    }

    /** Of what is thrown, the class alone: the texts of the machine are the model's. */
    private static String kindOf(String outcome) {
        int end = outcome.indexOf(':');
        return end < 0 ? outcome : outcome.substring(0, end);
    }
}

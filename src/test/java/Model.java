import java.util.ArrayList;
import java.util.List;

/**
 * The document once more, written another way: one table of who tells which rule, real arrays that the machine
 * looks after, and no subclasses. ModelTest asks it and the class the same calls.
 */
final class Model {
    private static final int[] UNDER = {-1, 0, 1, 1, 2, 3, 0, 4};
    private static final String[] TELLERS = {"02457", "0346", "0567", "02346", "04567"};
    private static final int AIR = 2, FOLDS = 3, ACID = 4, CRUST = 5;

    private final List<int[]> loaves = new ArrayList<>();
    private final Integer[][] oven = new Integer[4][];
    private final List<Integer> book = new ArrayList<>();
    private final int[] ends = new int[5];

    int loaf(int kind, int mass) {
        if (kind < 0 || kind > 7 || mass < 1 || mass > 2000) return -102;
        if (loaves.size() == 20) return -104;
        loaves.add(new int[] {kind, mass, 0, 0, 0, 0});
        return loaves.size() - 1;
    }

    int shelf(int k, int n) {
        if (noShelf(k) || n > 8) return -102;
        oven[k] = new Integer[n];
        return n;
    }

    int out(int k) {
        if (noShelf(k)) return -102;
        int was = oven[k] == null ? 0 : 1;
        oven[k] = null;
        return was;
    }

    int rest(int loaf, int m) {
        return unknown(loaf) ? -101 : m < 0 || m > 600 ? -102 : act(0, loaf, m, 0);
    }

    int fold(int loaf) {
        if (unknown(loaf)) return -101;
        act(1, loaf, 0, 0);
        return loaves.get(loaf)[FOLDS];
    }

    int lay(int loaf, int k, int place) {
        if (unknown(loaf)) return -101;
        if (noShelf(k)) return -102;
        act(2, loaf, k, place);
        int lies = 0;
        for (Integer[] row : oven) {
            for (int p = 0; row != null && p < row.length; p++) {
                lies += row[p] != null && row[p] == loaf ? 1 : 0;
            }
        }
        return lies;
    }

    int bake(int loaf, int heat) {
        return unknown(loaf) ? -101 : heat < 0 || heat > 400 ? -102 : act(3, loaf, heat, 0);
    }

    int worth(int loaf) {
        return unknown(loaf) ? -101 : act(4, loaf, 0, 0);
    }

    int cost(int loaf) {
        if (unknown(loaf)) return -101;
        int kind = loaves.get(loaf)[0];
        if ("4567".indexOf('0' + kind) < 0) return -103;
        int worth = act(4, loaf, 0, 0);
        return kind == 5 ? worth + 7 : worth * 11 / 10;
    }

    int change(int loaf, int coins) {
        if (unknown(loaf)) return -101;
        if (coins < 0 || coins > 100000) return -102;
        int cost = cost(loaf);
        return cost == -103 ? cost : Math.max(-1, coins - cost);
    }

    int fire(int heat) {
        if (heat < 0 || heat > 400) return -102;
        int done = 0;
        for (Integer[] row : oven) {
            for (int p = 0; row != null && p < row.length; p++) {
                done += row[p] == null ? 0 : act(3, row[p], heat, 0);
            }
        }
        return done;
    }

    int night(int m) {
        if (m < 0 || m > 600) return -102;
        int before = ends[2];
        for (int loaf = 0; loaf < loaves.size(); loaf++) {
            try {
                act(0, loaf, m, 0);
            } catch (IllegalStateException fallen) {
                continue;
            }
        }
        return ends[2] - before;
    }

    int at(int k, int place) {
        if (noShelf(k)) return -102;
        boolean lies = oven[k] != null && place >= 0 && place < oven[k].length && oven[k][place] != null;
        return lies ? oven[k][place] : -1;
    }

    int places(int k) {
        return noShelf(k) ? -102 : oven[k] == null ? -1 : oven[k].length;
    }

    int tell(int loaf, int what) {
        return unknown(loaf) ? -101 : what < 0 || what > 5 ? -102 : loaves.get(loaf)[what];
    }

    int book(int i) {
        return i < 0 || i >= 100 || i >= book.size() ? -1 : book.get(book.size() - 1 - i);
    }

    int count(int what) {
        if (what < 0 || what > 4) return -102;
        return what == 0 ? loaves.size() : what == 1 ? book.size() : ends[what];
    }

    private boolean noShelf(int k) {
        return k < 0 || k > 3;
    }

    private boolean unknown(int loaf) {
        return loaf < 0 || loaf >= loaves.size();
    }

    private int act(int act, int loaf, int a, int b) {
        return as(act, loaves.get(loaf)[0], loaf, a, b);
    }

    /** The act as a kind has it: by its own rule, or by that of the nearest kind under it that tells one. */
    private int as(int act, int kind, int loaf, int a, int b) {
        if (TELLERS[act].indexOf('0' + kind) < 0) return as(act, UNDER[kind], loaf, a, b);
        book.add(10 * act + kind);
        int[] it = loaves.get(loaf);
        int under = UNDER[kind];
        switch (10 * act + kind) {
            case 0: it[AIR] = Math.min(100, it[AIR] + a / 6); return it[AIR];
            case 2: return as(0, under, loaf, a / 2, 0);
            case 4: it[ACID]++; return as(0, under, loaf, a, 0);
            case 5: return briocheRests(it, loaf, a);
            case 7: return as(0, under, loaf, a + it[ACID], 0);
            case 10: it[AIR] /= 2; it[FOLDS]++; return 0;
            case 13: as(1, under, loaf, 0, 0); return as(1, under, loaf, 0, 0);
            case 14: as(1, under, loaf, 0, 0); it[ACID] -= it[ACID] > 0 ? 1 : 0; return 0;
            case 16: it[FOLDS]++; return 0;
            case 20: ends[3]++; oven[a][b] = loaf; ends[3]--; return 0;
            case 25: as(2, under, loaf, a, b); return as(2, under, loaf, a, b + 1);
            case 26: return as(2, under, loaf, a, b / 2);
            case 27: act(1, loaf, 0, 0); return as(2, under, loaf, a, b);
            case 30: it[CRUST] += (a + it[AIR]) / 10; return it[CRUST] >= 20 ? 1 : 0;
            case 32: return as(3, under, loaf, a - 30, 0);
            case 33: return as(3, under, loaf, a, 0) & (it[CRUST] <= 60 ? 1 : 0);
            case 34: return as(3, under, loaf, a, 0) | (it[ACID] > 5 ? 1 : 0);
            case 36: return as(3, under, loaf, 2 * a, 0);
            case 40: return it[1] / 10 + 2 * it[FOLDS];
            case 44: return as(4, under, loaf, 0, 0) + it[ACID];
            case 45: return 2 * as(4, under, loaf, 0, 0);
            case 46: ends[4]++; int each = 1000 / it[CRUST]; ends[4]--; return each;
            case 47: return as(4, under, loaf, 0, 0) + (it[CRUST] >= 20 ? 5 : 0);
            default: throw new AssertionError("no such rule");
        }
    }

    private int briocheRests(int[] it, int loaf, int m) {
        int given = as(0, UNDER[5], loaf, m, 0);
        if (it[AIR] < 90) return given;
        it[AIR] = 10;
        ends[2]++;
        throw new IllegalStateException("fallen");
    }
}

/** Collects the calls whose answer is not the one that is due; every test of the project ends by end(). */
final class Due {
    interface Call {
        int run();
    }

    interface CallOf {
        int run(int value);
    }

    private final String test;
    private String about = "";
    private int asked = 0;
    private int wrong = 0;

    Due(String test) {
        this.test = test;
    }

    /** What the calls from here on are about; it is told with each that is not as due. */
    void about(String what) {
        about = what;
    }

    int asked() {
        return asked;
    }

    void answer(String call, int want, Call made) {
        asked++;
        String got = outcome(made);
        if (!got.equals(Integer.toString(want))) {
            tellWrong(call, got, Integer.toString(want));
        }
    }

    /** The same answer for each value; the '?' in the call stands for the value. */
    void each(String call, int want, int[] values, CallOf made) {
        for (int value : values) {
            answer(call.replace("?", Integer.toString(value)), want, () -> made.run(value));
        }
    }

    /** For each pair the call of the first is answered by the second; the '?' in the call stands for the first. */
    void pairs(String call, int[][] pairs, CallOf made) {
        for (int[] pair : pairs) {
            answer(call.replace("?", Integer.toString(pair[0])), pair[1], () -> made.run(pair[0]));
        }
    }

    void unchanged(BakeHouse x, Runnable calls) {
        String before = House.all(x);
        calls.run();
        same("what can be told of the house behind it", before, House.all(x));
    }

    /** The text is asked for too: what the machine throws has a text of its own or none, ours has the class's. */
    void thrown(String call, Class<? extends RuntimeException> want, String text, Call made) {
        asked++;
        String due = want.getName() + ": " + text;
        String got = outcome(made);
        if (!got.equals(due)) {
            tellWrong(call, got, due);
        }
    }

    void same(String what, String want, String got) {
        asked++;
        if (!got.equals(want)) {
            tellWrong(what, got, want);
        }
    }

    void holds(String what, boolean held) {
        asked++;
        if (!held) {
            tellWrong(what, "no", "yes");
        }
    }

    void end() {
        System.out.println(test + ": " + asked + " asked, " + wrong + " not as due");
        if (wrong != 0 || asked == 0) {
            System.exit(1);
        }
    }

    static String outcome(Call made) {
        try {
            return Integer.toString(made.run());
        } catch (RuntimeException e) {
            return e.getClass().getName() + ": " + e.getMessage();
        }
    }

    private void tellWrong(String call, String got, String due) {
        wrong++;
        System.out.println(test + ": " + about + call + " answered " + got + ", due is " + due);
    }
}

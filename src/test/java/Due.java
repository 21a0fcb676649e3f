/** Collects the calls whose answer is not the one that is due; every test of the project ends by end(). */
final class Due {
    interface Call {
        int run();
    }

    private final String test;
    private int asked = 0;
    private int wrong = 0;

    Due(String test) {
        this.test = test;
    }

    void answer(String call, int want, Call made) {
        asked++;
        String got = outcome(made);
        if (!got.equals(Integer.toString(want))) {
            tellWrong(call, got, Integer.toString(want));
        }
    }

    /** The text is asked for too: what the machine throws has a text of its own or none, ours has the class's. */
    void thrown(String call, Class<? extends RuntimeException> want, String text, Call made) {
        asked++;
        String due = want.getName() + ": " + text;
        String got = outcome(made);
        if (!got.equals(due)) {
            tellWrong(call, got, due);
        }
    }

    void holds(String what, boolean held) {
        asked++;
        if (!held) {
            tellWrong(what, "no", "yes");
        }
    }

    void end() {
        System.out.println(test + ": " + asked + " asked, " + wrong + " not as due");
        if (wrong != 0 || asked == 0) {
            System.exit(1);
        }
    }

    static String outcome(Call made) {
        try {
            return Integer.toString(made.run());
        } catch (RuntimeException e) {
            return e.getClass().getName() + ": " + e.getMessage();
        }
    }

    private void tellWrong(String call, String got, String due) {
        wrong++;
        System.out.println(test + ": " + call + " answered " + got + ", due is " + due);
    }
}

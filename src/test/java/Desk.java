/** Writes texts and plans on sheets of an object, so that a test tells them in one line. */
final class Desk {
    static final int TEXT_SHEET = 0;
    static final int PLAN_SHEET = 1;
    static final int INTS = 2;

    /** The piece of most tests: a plain place, a knotty, a high one, and a plain one. */
    static final String FOUR = "c60;p3520;k6413;h2212;p8610";

    private Desk() {
    }

    static HourRehearsal with(String text) {
        HourRehearsal x = new HourRehearsal();
        take(x, text);
        return x;
    }

    static int take(HourRehearsal x, String text) {
        write(x, text);
        return x.piece(TEXT_SHEET, 0, 0, text.length());
    }

    static void write(HourRehearsal x, String text) {
        x.sheet(TEXT_SHEET, 0, text.length());
        for (int i = 0; i < text.length(); i++) {
            x.put(TEXT_SHEET, i, text.charAt(i));
        }
    }

    /** Answers how many steps there are, as calls that use them ask for it. */
    static int steps(HourRehearsal x, int... steps) {
        x.sheet(PLAN_SHEET, INTS, steps.length);
        for (int i = 0; i < steps.length; i++) {
            x.put(PLAN_SHEET, i, steps[i]);
        }
        return steps.length;
    }

    static int plan(HourRehearsal x, int what, int... steps) {
        return x.plan(PLAN_SHEET, INTS, 0, steps(x, steps), what);
    }

    static long right(HourRehearsal x, int which, int... steps) {
        return x.right(PLAN_SHEET, INTS, 0, steps(x, steps), which);
    }

    static int worse(HourRehearsal x, int... steps) {
        return x.worse(PLAN_SHEET, INTS, 0, steps(x, steps));
    }

    static long worth(HourRehearsal x, int k, int... steps) {
        return x.worth(PLAN_SHEET, INTS, 0, steps(x, steps), k);
    }

    static int kinds(HourRehearsal x, int k, int... steps) {
        return x.kinds(k, PLAN_SHEET, INTS, 0, steps(x, steps));
    }
}

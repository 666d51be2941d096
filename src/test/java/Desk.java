/** Writes texts and plans on sheets of an object, so that a test tells them in one line. */
final class Desk {
    static final int TEXT_SHEET = 0;
    static final int PLAN_SHEET = 1;
    static final int INTS = 2;

    /** The piece of most tests: a plain place, a knotty, a high one, and a plain one. */
    static final String FOUR = "c60;p3520;k6413;h2212;p8610";

    private Desk() {
    }

    static HourRehearsal with(String text) {
        HourRehearsal x = new HourRehearsal();
        take(x, text);
        return x;
    }

    static int take(HourRehearsal x, String text) {
        write(x, text);
        return x.piece(TEXT_SHEET, 0, 0, text.length());
    }

    static void write(HourRehearsal x, String text) {
        x.sheet(TEXT_SHEET, 0, text.length());
        for (int i = 0; i < text.length(); i++) {
            x.put(TEXT_SHEET, i, text.charAt(i));
        }
    }

    static void row(HourRehearsal x, int sheet, int lane, int... cells) {
        x.sheet(sheet, lane, cells.length);
        for (int i = 0; i < cells.length; i++) {
            x.put(sheet, i, cells[i]);
        }
    }

    /** Answers how many steps there are, as calls that use them ask for it. */
    static int steps(HourRehearsal x, int... steps) {
        row(x, PLAN_SHEET, INTS, steps);
        return steps.length;
    }

    static int plan(HourRehearsal x, int what, int... steps) {
        return x.plan(PLAN_SHEET, INTS, 0, steps(x, steps), what);
    }

    static long right(HourRehearsal x, int which, int... steps) {
        return x.right(PLAN_SHEET, INTS, 0, steps(x, steps), which);
    }

    static int worse(HourRehearsal x, int... steps) {
        return x.worse(PLAN_SHEET, INTS, 0, steps(x, steps));
    }

    static long worth(HourRehearsal x, int k, int... steps) {
        return x.worth(PLAN_SHEET, INTS, 0, steps(x, steps), k);
    }

    static int kinds(HourRehearsal x, int k, int... steps) {
        return x.kinds(k, PLAN_SHEET, INTS, 0, steps(x, steps));
    }

    /** All that calls can see of an object but fault(), without a change of it. */
    static String seen(HourRehearsal x) {
        StringBuilder all = new StringBuilder("trace " + x.trace() + ", many");
        for (int what = 0; what < 4; what++) {
            all.append(' ').append(x.many(what));
        }
        for (int k = 0; k < x.many(0); k++) {
            all.append(", place");
            for (int what = 0; what < 6; what++) {
                all.append(' ').append(x.ofPlace(k, what));
            }
        }
        all.append(", plans ").append(x.plans(2, -1)).append(' ').append(x.plans(2, 0)).append(' ').append(x.plans(2, 1));
        for (int sheet = 0; sheet < 4; sheet++) {
            all.append(", sheet").append(cellsOf(x, sheet));
        }
        return all.toString();
    }

    private static String cellsOf(HourRehearsal x, int sheet) {
        StringBuilder cells = new StringBuilder();
        for (int lane = 0; lane < 3; lane++) {
            int i = 0;
            for (long v = x.cell(sheet, 0, lane); v != HourRehearsal.LOST && i < 60; v = x.cell(sheet, i, lane)) {
                cells.append(' ').append(v);
                i++;
            }
            cells.append(" fault ").append(x.fault());
        }
        return cells.toString();
    }
}

import java.util.Random;

/** Random runs of calls on fresh objects, each answer compared with the model's. */
public final class ModelTest {
    private static final int RUNS = 1500;
    private static final int MOST_CALLS = 512;
    private static final int MOST_CALLS_AT_ONCE = 150;
    private static final int[] EDGES = {-1, 0, 1, 60, 61, 127, 128, -129, 32768, Integer.MAX_VALUE, Integer.MIN_VALUE};

    private final Random random;
    private final HourRehearsal x = new HourRehearsal();
    private final Model model = new Model();
    private final Checks checks;
    private int calls = 0;

    private ModelTest(long seed, Checks checks) {
        this.random = new Random(seed);
        this.checks = checks;
        checks.about("run " + seed);
    }

    public static void main(String[] args) {
        Checks checks = new Checks("ModelTest");
        for (int seed = 0; seed < RUNS && checks.wrong() < 20; seed++) {
            new ModelTest(seed, checks).run();
        }
        checks.end();
    }

    private void run() {
        while (calls <= MOST_CALLS - MOST_CALLS_AT_ONCE) {
            switch (random.nextInt(12)) {
                case 0: writeText(); break;
                case 1: case 2: case 3: case 4: askPlan(); break;
                case 5: askSearch(); break;
                case 6: askSeen(); break;
                default: anyCall(); break;
            }
        }
    }

    private int below(int n) {
        return random.nextInt(n);
    }

    private boolean chance(int ofHundred) {
        return below(100) < ofHundred;
    }

    /** Mostly a number from least to most, now and then one beside them, or far from them. */
    private int about(int least, int most) {
        int draw = below(40);
        if (draw == 0) {
            return least - 1;
        }
        if (draw == 1) {
            return most + 1;
        }
        if (draw == 2) {
            return EDGES[below(EDGES.length)];
        }
        return least + below(most - least + 1);
    }

    private void writeText() {
        StringBuilder text = new StringBuilder("c");
        int minutes = chance(60) ? 45 + below(16) : below(64);
        text.append((char) ('0' + minutes / 10)).append((char) ('0' + minutes % 10));
        int count = chance(5) ? 7 : 1 + below(6);
        for (int k = 0; k < count; k++) {
            text.append(';').append("pkh".charAt(below(3))).append((char) ('0' + below(10)));
            text.append((char) ('1' + (chance(60) ? below(4) : below(9)))).append((char) ('1' + below(chance(60) ? 2 : 9)));
            text.append((char) ('0' + (chance(70) ? 0 : below(6))));
        }
        if (chance(25)) {
            text.setCharAt(below(text.length()), "cpkh;0123456789:/x".charAt(below(18)));
        }
        if (chance(15)) {
            text.setLength(below(text.length() + 1));
        }
        int lane = below(3);
        int shift = below(3);
        int sheet = below(4);
        ask(16, sheet, lane, text.length() + shift);
        for (int i = 0; i < text.length(); i++) {
            ask(18, sheet, i + shift, text.charAt(i));
        }
        ask(0, sheet, lane, shift, text.length());
    }

    private void askPlan() {
        int n = chance(60) ? below(7) : below(21);
        int places = Math.max(1, x.many(0));
        calls++;
        int lane = below(3);
        int shift = below(2);
        int sheet = below(4);
        int favourite = below(places);
        ask(16, sheet, lane, n + shift);
        for (int i = 0; i < n; i++) {
            int k = chance(40) ? favourite : below(places);
            int step = chance(45) ? k : chance(50) ? 10 + k : chance(50) ? 20 : 21;
            ask(18, sheet, i + shift, chance(2) ? about(0, 21) : step);
        }
        ask(4, sheet, lane, shift, n, 1);
        for (int t = 0; t < 5; t++) {
            askOfPlan(sheet, chance(95) ? lane : below(3), shift, chance(95) ? n : below(n + 2));
        }
    }

    private void askOfPlan(int sheet, int lane, int i, int n) {
        switch (below(6)) {
            case 0: ask(4, sheet, lane, i, n, chance(50) ? about(10, 15) : about(20, 24)); break;
            case 1: ask(4, sheet, lane, i, n, about(0, 1)); break;
            case 2: ask(5, sheet, lane, i, n, about(0, 1)); break;
            case 3: ask(6, sheet, lane, i, n); break;
            case 4: ask(7, sheet, lane, i, n, about(0, Math.max(0, n - 1))); break;
            default: seeEnd(sheet, lane, i, n); break;
        }
    }

    /** What was seen is mostly how it was, so that some kinds and plans fit. */
    private void seeEnd(int sheet, int lane, int i, int n) {
        int k = below(6);
        int v = x.plan(sheet, lane, i, n, 10 + k);
        calls++;
        model.call(4, sheet, lane, i, n, 10 + k);
        ask(12, k, v);
        ask(15, about(0, 5), sheet, lane, i, n);
    }

    private void askSearch() {
        int n = chance(85) ? below(3) : about(0, 3);
        switch (below(4)) {
            case 0: ask(8, n, about(0, 2)); break;
            case 1: ask(9, n, about(0, 1)); break;
            default: ask(10, about(0, 5), about(0, 10)); break;
        }
    }

    private void askSeen() {
        int n = chance(85) ? below(3) : about(0, 3);
        calls++;
        ask(13, about(0, x.many(3)));
        ask(12, about(0, 5), about(0, 10));
        ask(14, n, -1);
        ask(14, n, about(-1, 2));
    }

    private void anyCall() {
        int c = below(27);
        switch (c) {
            case 0: ask(c, about(0, 3), about(0, 2), about(0, 60), about(0, 60)); break;
            case 1: case 2: case 12: ask(c, about(0, 5), about(0, 10)); break;
            case 3: ask(c, chance(50) ? about(45, 60) : about(5, 60)); break;
            case 4: case 5: case 7: ask(c, about(0, 3), about(0, 2), about(0, 60), about(0, 20), about(0, 24)); break;
            case 6: ask(c, about(0, 3), about(0, 2), about(0, 60), about(0, 20)); break;
            case 8: case 9: case 14: ask(c, about(0, 1), about(0, 2)); break;
            case 10: ask(c, about(0, 5), about(0, 10)); break;
            case 11: ask(c, about(0, 6), about(0, 6), about(0, 1)); break;
            case 13: ask(c, about(0, 8)); break;
            case 15: ask(c, about(0, 5), about(0, 3), about(0, 2), about(0, 60), about(0, 20)); break;
            case 16: ask(c, about(0, 3), about(0, 2), about(0, 60)); break;
            case 17: ask(c, about(0, 3)); break;
            case 18: ask(c, about(0, 3), about(0, 59), about(-300, 300)); break;
            case 19: ask(c, about(0, 3), about(0, 59), about(0, 2)); break;
            case 20: ask(c, about(0, 3), about(0, 60), about(0, 3), about(0, 60), about(0, 60)); break;
            case 21: case 22: ask(c, about(0, 5)); break;
            case 23: ask(c, about(0, 5), about(0, 2)); break;
            case 24: case 25: ask(c); break;
            default: ask(c, about(0, 3)); break;
        }
    }

    private void ask(int c, int... a) {
        StringBuilder told = new StringBuilder(Calls.NAMES.get(c)).append('(');
        for (int i = 0; i < a.length; i++) {
            told.append(i == 0 ? "" : ", ").append(a[i]);
        }
        told.append(')');
        calls++;
        checks.due("call " + calls + ", " + told, Calls.answer(x, c, a), model.call(c, a));
        if (chance(25)) {
            calls++;
            checks.due("fault() behind " + told, x.fault(), model.call(25));
        }
        if (chance(10)) {
            calls++;
            checks.due("trace() behind " + told, x.trace(), model.call(24));
        }
    }
}

import java.math.BigInteger;
import java.util.ArrayList;
import java.util.List;

/**
 * A second writing of the document, slow and plain, that shares no thought with the class: rows are the
 * machine's own, plans are lists, each plan is played from its beginning, shares are big numbers.
 */
final class Model {
    static final long UNKNOWN = -1, OUTSIDE = -2, STATE = -3, FULL = -4, NONE = -9, LOST = Long.MIN_VALUE;

    /** An answer that leaves the usual way: a refusal, a fault. */
    private static final class Stop extends RuntimeException {
        private static final long serialVersionUID = 1;
        final long answer;
        final int fault;

        Stop(long answer, int fault) {
            super(null, null, false, false);
            this.answer = answer;
            this.fault = fault;
        }
    }

    private static class Place {
        int sure, length, lips, from;

        int kind() {
            return 0;
        }

        int gains() {
            return 3;
        }

        int tell(Model m) {
            m.begin(1);
            return length;
        }

        int plainTell(Model m) {
            return tell(m);
        }

        int hum(Model m, int number) {
            m.begin(4);
            return number;
        }
    }

    private static class Knotty extends Place {
        @Override int kind() {
            return 1;
        }

        @Override int gains() {
            return super.gains() - 1;
        }

        @Override int tell(Model m) {
            m.begin(2);
            return super.tell(m) + 100;
        }

        @Override int plainTell(Model m) {
            return super.tell(m);
        }
    }

    private static final class High extends Knotty {
        @Override int kind() {
            return 2;
        }

        @Override int gains() {
            return super.gains() / 2;
        }

        @Override int tell(Model m) {
            m.begin(3);
            int knotty = super.tell(m);
            return knotty + plainTell(m);
        }

        @Override int hum(Model m, int number) {
            m.begin(5);
            return 30;
        }
    }

    private static final class Outcome {
        long takes = 0;
        int firstWrong = (int) NONE;
        int worse = (int) NONE;
        int[] sure;
        int[] joins;

        BigInteger parts() {
            BigInteger product = BigInteger.ONE;
            for (int s : sure) {
                product = product.multiply(BigInteger.valueOf(s));
            }
            for (int j : joins) {
                product = product.multiply(BigInteger.valueOf(j));
            }
            return product;
        }
    }

    private List<Place> places = new ArrayList<>();
    private int minutesThere = 0;
    private final List<int[]> readings = new ArrayList<>();
    private final Object[] sheets = new Object[4];
    private int trace = 0;
    private int fault = 0;

    /** The answer of call number c of the face, in the document's order, with these numbers. */
    long call(int c, int... a) {
        boolean namesFaults = c == 0 || c >= 4 && c <= 7 || c == 15 || c == 16 || c >= 18 && c <= 20 || c == 23;
        boolean isLong = c == 5 || c == 7 || c == 9 || c == 11 || c == 19;
        try {
            long answer = answerOf(c, a);
            if (namesFaults) {
                fault = 0;
            }
            return answer;
        } catch (Stop stop) {
            if (namesFaults) {
                fault = stop.fault;
            }
            return isLong ? LOST : stop.answer;
        }
    }

    private long answerOf(int c, int[] a) {
        switch (c) {
            case 0: return piece(a);
            case 1: return ofPlace(a[0], a[1]);
            case 2: return sure(a[0], a[1]);
            case 3: return minutes(a[0]);
            case 4: return plan(a);
            case 5: return right(a);
            case 6: return worse(a);
            case 7: return worth(a);
            case 8: return best(a[0], a[1]);
            case 9: return top(a[0], a[1]);
            case 10: return soonest(a[0], a[1]);
            case 11: return luck(a[0], a[1], a[2]);
            case 12: return reading(a[0], a[1]);
            case 13: return back(a[0]);
            case 14: return plans(a[0], a[1]);
            case 15: return kinds(a);
            case 16: return sheet(a[0], a[1], a[2]);
            case 17: return lose(a[0]);
            case 18: return put(a[0], a[1], a[2]);
            case 19: return cell(a[0], a[1], a[2]);
            case 20: return copy(a);
            case 21: return place(a[0]).tell(this);
            case 22: return place(a[0]).hum(this, a[0]);
            case 23: return as(a[0], a[1]);
            case 24: return trace;
            case 25: return fault;
            default: return many(a[0]);
        }
    }

    private void begin(int body) {
        trace = 31 * trace + body;
    }

    private static void refuseIf(boolean so, long answer) {
        if (so) {
            throw new Stop(answer, 0);
        }
    }

    private static void faultIf(boolean so, int number) {
        if (so) {
            throw new Stop(-10 - number, number);
        }
    }

    private static boolean not(int v, int least, int most) {
        return v < least || v > most;
    }

    private Place place(int k) {
        refuseIf(not(k, 0, places.size() - 1), UNKNOWN);
        return places.get(k);
    }

    private static int laneOf(Object row) {
        return row instanceof byte[] ? 0 : row instanceof short[] ? 1 : 2;
    }

    private static int lengthOf(Object row) {
        return java.lang.reflect.Array.getLength(row);
    }

    private static int at(Object row, int i) {
        return java.lang.reflect.Array.getInt(row, i);
    }

    private static void set(Object row, int i, int v) {
        if (row instanceof byte[]) {
            ((byte[]) row)[i] = (byte) v;
        } else if (row instanceof short[]) {
            ((short[]) row)[i] = (short) v;
        } else {
            ((int[]) row)[i] = v;
        }
    }

    private static boolean areThere(Object row, long i, long n) {
        return i >= 0 && n >= 0 && i + n <= lengthOf(row);
    }

    private static Place ofKind(int kind) {
        return kind == 0 ? new Place() : kind == 1 ? new Knotty() : new High();
    }

    private static Place ofKind(int kind, Place like) {
        Place other = ofKind(kind);
        other.sure = like.sure;
        other.length = like.length;
        other.lips = like.lips;
        other.from = like.from;
        return other;
    }

    // ---- 1

    private long piece(int[] a) {
        refuseIf(not(a[0], 0, 3), UNKNOWN);
        refuseIf(not(a[1], 0, 2), OUTSIDE);
        Object row = sheets[a[0]];
        faultIf(row != null && laneOf(row) != a[1], 2);
        faultIf(row == null, 1);
        faultIf(a[3] < 0, 4);
        faultIf(!areThere(row, a[2], a[3]), 3);
        StringBuilder text = new StringBuilder();
        for (int i = 0; i < a[3]; i++) {
            int code = at(row, a[2] + i);
            text.append(code >= 32 && code < 127 ? (char) code : '?');
        }
        for (int n = 1; n <= text.length(); n++) {
            if (!canGoOn(text.substring(0, n))) {
                return -100 - (n - 1);
            }
        }
        if (!text.toString().matches("c[0-6][0-9](;[pkh][0-9][1-9][1-9][0-5]){1,6}")) {
            return -100 - text.length();
        }
        take(text.toString());
        return places.size();
    }

    /** Some ending makes a whole text of it: the endings are tried, one for each length. */
    private static boolean canGoOn(String begun) {
        String[] shapes = {"c60", "c05", "c19"};
        for (String shape : shapes) {
            String full = shape + ";p5115;p5115;p5115;p5115;p5115;p5115";
            if (begun.length() <= full.length() && isWhole(begun + full.substring(begun.length()))) {
                return true;
            }
        }
        return false;
    }

    private static boolean isWhole(String text) {
        if (!text.matches("c[0-9][0-9](;[pkh][0-9][1-9][1-9][0-5]){1,6}")) {
            return false;
        }
        int minutes = Integer.parseInt(text.substring(1, 3));
        return minutes >= 5 && minutes <= 60;
    }

    private void take(String text) {
        places = new ArrayList<>();
        readings.clear();
        minutesThere = Integer.parseInt(text.substring(1, 3));
        for (String told : text.substring(4).split(";")) {
            Place place = ofKind("pkh".indexOf(told.charAt(0)));
            place.sure = told.charAt(1) - '0';
            place.length = told.charAt(2) - '0';
            place.lips = told.charAt(3) - '0';
            place.from = told.charAt(4) - '0';
            places.add(place);
        }
    }

    private long ofPlace(int k, int what) {
        Place p = place(k);
        refuseIf(not(what, 0, 5), OUTSIDE);
        return new int[] {p.kind(), p.sure, p.length, p.lips, p.from, p.gains()}[what];
    }

    private long sure(int k, int v) {
        Place p = place(k);
        refuseIf(not(v, 0, 10), OUTSIDE);
        int was = p.sure;
        p.sure = v;
        return was;
    }

    private long minutes(int v) {
        refuseIf(not(v, 5, 60), OUTSIDE);
        refuseIf(places.isEmpty(), STATE);
        int was = minutesThere;
        minutesThere = v;
        return was;
    }

    // ---- 2

    private List<Integer> planOf(int sheet, int lane, int i, int n, boolean asTold) {
        refuseIf(not(sheet, 0, 3), UNKNOWN);
        refuseIf(not(lane, 0, 2) || not(n, 0, 20) || !asTold, OUTSIDE);
        Object row = sheets[sheet];
        faultIf(row != null && laneOf(row) != lane, 2);
        faultIf(row == null, 1);
        faultIf(!areThere(row, i, n), 3);
        refuseIf(places.isEmpty(), STATE);
        List<Integer> steps = new ArrayList<>();
        for (int s = 0; s < n; s++) {
            steps.add(at(row, i + s));
        }
        refuseIf(!allSteps().containsAll(steps), UNKNOWN);
        return steps;
    }

    private List<Integer> allSteps() {
        List<Integer> all = new ArrayList<>();
        for (int slow = 0; slow <= 10; slow += 10) {
            for (int k = 0; k < places.size(); k++) {
                all.add(slow + k);
            }
        }
        all.add(20);
        all.add(21);
        return all;
    }

    private static Outcome play(List<Place> places, List<Integer> steps, int minutesThere, boolean asIf) {
        Outcome o = new Outcome();
        o.sure = places.stream().mapToInt(p -> p.sure).toArray();
        o.joins = new int[Math.max(0, places.size() - 1)];
        java.util.Arrays.fill(o.joins, 5);
        int all = places.stream().mapToInt(p -> p.length).sum();
        long rested = 0;
        for (int s = 0; s < steps.size(); s++) {
            int step = steps.get(s);
            Place p = step < 20 ? places.get(step % 10) : null;
            long takes = step == 21 ? 15 : step == 20 ? all : p.length * (step / 10 + 1);
            boolean late = o.takes + takes > minutesThere;
            boolean early = p != null && o.takes < 10 * p.from;
            if (!asIf && (late || early)) {
                o.firstWrong = s;
                return o;
            }
            boolean tired = o.takes - rested >= 40;
            if (p != null) {
                int k = step % 10;
                long before = steps.subList(0, s).stream().filter(t -> t == k || t == 10 + k).count();
                int was = o.sure[k];
                if (before >= p.lips) {
                    o.sure[k] = Math.max(0, was - 1);
                } else if (!tired) {
                    o.sure[k] = Math.min(10, was + p.gains() * (step / 10 + 1));
                }
                o.worse = o.sure[k] < was && o.worse == NONE ? s : o.worse;
            } else if (step == 20 && !tired) {
                for (int k = 0; k < o.joins.length; k++) {
                    o.joins[k] = Math.min(10, o.joins[k] + 2);
                }
            }
            o.takes += takes;
            rested = step == 21 ? o.takes : rested;
        }
        return o;
    }

    private Outcome play(List<Integer> steps) {
        return play(places, steps, minutesThere, false);
    }

    private Outcome playThatCanBe(List<Integer> steps) {
        Outcome o = play(steps);
        refuseIf(o.firstWrong != NONE, -100 - o.firstWrong);
        return o;
    }

    private long plan(int[] a) {
        int what = a[4];
        boolean asTold = what == 0 || what == 1 || !not(what, 10, 15) || !not(what, 20, 24);
        List<Integer> steps = planOf(a[0], a[1], a[2], a[3], asTold);
        if (what == 1) {
            return play(steps).firstWrong;
        }
        Outcome o = playThatCanBe(steps);
        if (what == 0) {
            return o.takes;
        }
        int[] row = what < 20 ? o.sure : o.joins;
        return what % 10 < row.length ? row[what % 10] : NONE;
    }

    private BigInteger whole() {
        return BigInteger.TEN.pow(2 * places.size() - 1);
    }

    private static long share(BigInteger upper, BigInteger lower, int which) {
        BigInteger common = upper.gcd(lower);
        return (which == 0 ? upper : lower).divide(common).longValueExact();
    }

    private long right(int[] a) {
        Outcome o = playThatCanBe(planOf(a[0], a[1], a[2], a[3], !not(a[4], 0, 1)));
        return share(o.parts(), whole(), a[4]);
    }

    private long worse(int[] a) {
        return playThatCanBe(planOf(a[0], a[1], a[2], a[3], true)).worse;
    }

    private long worth(int[] a) {
        List<Integer> steps = planOf(a[0], a[1], a[2], a[3], !not(a[4], 0, a[3] - 1));
        List<Integer> without = new ArrayList<>(steps);
        without.remove(a[4]);
        return playThatCanBe(steps).parts().subtract(playThatCanBe(without).parts()).longValueExact();
    }

    // ---- 3

    /** The fewest steps first, then as rows. */
    private List<List<Integer>> allPlans(int n, List<Integer> steps) {
        List<List<Integer>> all = new ArrayList<>();
        all.add(new ArrayList<>());
        int begin = 0;
        for (int length = 1; length <= n; length++) {
            int end = all.size();
            for (int p = begin; p < end; p++) {
                for (int step : steps) {
                    List<Integer> longer = new ArrayList<>(all.get(p));
                    longer.add(step);
                    all.add(longer);
                }
            }
            begin = end;
        }
        return all;
    }

    private List<Integer> bestOf(int n) {
        List<Integer> best = new ArrayList<>();
        BigInteger most = play(best).parts();
        for (List<Integer> steps : allPlans(n, allSteps())) {
            Outcome o = play(steps);
            if (o.firstWrong == NONE && o.parts().compareTo(most) > 0) {
                best = steps;
                most = o.parts();
            }
        }
        return best;
    }

    private long best(int n, int q) {
        refuseIf(not(n, 0, 3) || not(q, 0, 2), OUTSIDE);
        refuseIf(places.isEmpty(), STATE);
        List<Integer> best = bestOf(n);
        return q < best.size() ? best.get(q) : NONE;
    }

    private long top(int n, int which) {
        refuseIf(not(n, 0, 3) || not(which, 0, 1), OUTSIDE);
        refuseIf(places.isEmpty(), STATE);
        return share(play(bestOf(n)).parts(), whole(), which);
    }

    private long soonest(int k, int v) {
        place(k);
        refuseIf(not(v, 0, 10), OUTSIDE);
        long least = Long.MAX_VALUE;
        for (List<Integer> steps : allPlans(5, List.of(k, 10 + k, 21))) {
            Outcome o = play(places, steps, 0, true);
            least = o.sure[k] >= v ? Math.min(least, o.takes) : least;
        }
        return least == Long.MAX_VALUE ? NONE : least;
    }

    private long luck(int a, int b, int which) {
        refuseIf(not(a, 0, 6) || not(b, 0, 6) || not(which, 0, 1), OUTSIDE);
        BigInteger upper = BigInteger.ZERO;
        BigInteger lower = BigInteger.ZERO;
        for (int s = 0; s <= 10; s++) {
            BigInteger chance = BigInteger.valueOf(s).pow(a).multiply(BigInteger.valueOf(10 - s).pow(b));
            upper = upper.add(chance.multiply(BigInteger.valueOf(s)));
            lower = lower.add(chance.multiply(BigInteger.TEN));
        }
        return share(upper, lower, which);
    }

    // ---- 4

    private long reading(int k, int v) {
        place(k);
        refuseIf(not(v, 0, 10), OUTSIDE);
        refuseIf(readings.size() == 8, FULL);
        readings.add(new int[] {k, v});
        return readings.size() - 1;
    }

    private long back(int k) {
        refuseIf(not(k, 0, readings.size()), OUTSIDE);
        readings.subList(readings.size() - k, readings.size()).clear();
        return readings.size();
    }

    private boolean isAsSeen(Outcome o) {
        return o.firstWrong == NONE && readings.stream().allMatch(r -> o.sure[r[0]] == r[1]);
    }

    private long plans(int n, int q) {
        refuseIf(not(n, 0, 3) || not(q, -1, 2), OUTSIDE);
        refuseIf(places.isEmpty(), STATE);
        List<List<Integer>> fitting = allPlans(n, allSteps());
        fitting.removeIf(steps -> !isAsSeen(play(steps)));
        if (q == -1) {
            return fitting.size();
        }
        return fitting.isEmpty() || q >= fitting.get(0).size() ? NONE : fitting.get(0).get(q);
    }

    private long kinds(int[] a) {
        Place own = place(a[0]);
        List<Integer> steps = planOf(a[1], a[2], a[3], a[4], true);
        playThatCanBe(steps);
        int set = 0;
        for (int kind = 0; kind < 3; kind++) {
            List<Place> others = new ArrayList<>(places);
            others.set(a[0], ofKind(kind, own));
            set += isAsSeen(play(others, steps, minutesThere, false)) ? 1 << kind : 0;
        }
        return set;
    }

    // ---- 5

    private long sheet(int k, int lane, int n) {
        refuseIf(not(k, 0, 3), UNKNOWN);
        refuseIf(not(lane, 0, 2) || n > 60, OUTSIDE);
        faultIf(n < 0, 4);
        sheets[k] = lane == 0 ? new byte[n] : lane == 1 ? new short[n] : new int[n];
        return 1;
    }

    private long lose(int k) {
        refuseIf(not(k, 0, 3), UNKNOWN);
        boolean had = sheets[k] != null;
        sheets[k] = null;
        return had ? 1 : 0;
    }

    private long put(int k, int i, int v) {
        refuseIf(not(k, 0, 3), UNKNOWN);
        faultIf(sheets[k] == null, 1);
        faultIf(not(i, 0, lengthOf(sheets[k]) - 1), 3);
        set(sheets[k], i, v);
        return 1;
    }

    private long cell(int k, int i, int lane) {
        refuseIf(not(k, 0, 3), UNKNOWN);
        refuseIf(not(lane, 0, 2), OUTSIDE);
        faultIf(sheets[k] != null && laneOf(sheets[k]) != lane, 2);
        faultIf(sheets[k] == null, 1);
        faultIf(not(i, 0, lengthOf(sheets[k]) - 1), 3);
        return at(sheets[k], i);
    }

    private long copy(int[] a) {
        refuseIf(not(a[0], 0, 3) || not(a[2], 0, 3), UNKNOWN);
        Object source = sheets[a[0]];
        Object goal = sheets[a[2]];
        faultIf(source == null || goal == null, 1);
        faultIf(laneOf(source) != laneOf(goal), 2);
        faultIf(!areThere(source, a[1], a[4]) || !areThere(goal, a[3], a[4]), 3);
        int[] taken = new int[a[4]];
        for (int t = 0; t < a[4]; t++) {
            taken[t] = at(source, a[1] + t);
        }
        for (int t = 0; t < a[4]; t++) {
            set(goal, a[3] + t, taken[t]);
        }
        return a[4];
    }

    private long as(int k, int kind) {
        Place p = place(k);
        refuseIf(not(kind, 0, 2), OUTSIDE);
        boolean is = kind == 0 || kind == 1 && p instanceof Knotty || kind == 2 && p instanceof High;
        faultIf(!is, 2);
        return 1;
    }

    private long many(int what) {
        refuseIf(not(what, 0, 3), OUTSIDE);
        int joins = Math.max(0, places.size() - 1);
        return new int[] {places.size(), joins, minutesThere, readings.size()}[what];
    }
}

import java.util.Arrays;

/**
 * An hour before the concert: the places of a piece, the plans to rehearse them by, how likely all
 * goes right then, and what can be told from how sure the places were in the end.
 *
 * All rows are made with the object and used again, so no call makes anything new.
 */
public final class HourRehearsal {
    public static final int UNKNOWN = -1, OUTSIDE = -2, STATE = -3, FULL = -4, NONE = -9;
    public static final long LOST = Long.MIN_VALUE;

    private static final int NULL = 1, CAST = 2, INDEX = 3, SIZE = 4;
    private static final int NO_FAULT = 0;
    private static final int TAKEN = 0;
    private static final int BELOW_FAULTS = -10;
    private static final int BELOW_PLACES_OF_A_ROW = -100;

    private static final int MOST_SHEETS = 4;
    private static final int BYTES = 0, SHORTS = 1, INTS = 2;
    private static final int MOST_CELLS = 60;

    private static final int PLAIN = 0, KNOTTY = 1, HIGH = 2;
    private static final int MOST_PLACES = 6;
    private static final int MOST_JOINS = 5;
    private static final int MOST_SURE = 10;
    private static final int LEAST_MINUTES = 5, MOST_MINUTES = 60;

    private static final int SLOW = 10, RUN = 20, BREAK = 21;
    private static final int[] STEPS = {0, 1, 2, 3, 4, 5, 10, 11, 12, 13, 14, 15, 20, 21};
    private static final int MOST_STEPS = 20;
    private static final int MOST_SEARCHED = 3;
    private static final int MOST_FOR_SOONEST = 5;

    private static final int MOST_READINGS = 8;
    private static final int MOST_TIMES_OF_LUCK = 6;

    private final Sheet[] sheets;
    private final Piece heldPiece;
    private final Plan toldPlan;
    private final Playing played;
    private final Search search;
    private int traced;
    private int lastFault;

    public HourRehearsal() {
        sheets = new Sheet[MOST_SHEETS];
        for (int k = 0; k < MOST_SHEETS; k++) {
            sheets[k] = new Sheet();
        }
        heldPiece = new Piece();
        toldPlan = new Plan();
        played = new Playing();
        search = new Search();
    }

    // ---- 1 the piece

    public int piece(int sheet, int lane, int i, int n) {
        lastFault = NO_FAULT;
        if (!isSheet(sheet)) {
            return UNKNOWN;
        }
        if (!isLane(lane)) {
            return OUTSIDE;
        }
        Sheet text = sheets[sheet];
        int fault = text.faultOfCells(lane, i, n);
        if (fault != NO_FAULT) {
            return failed(fault);
        }
        int wrong = Text.firstFault(text.cells, i, n);
        if (wrong != NONE) {
            return BELOW_PLACES_OF_A_ROW - wrong;
        }
        Text.fill(heldPiece, text.cells, i, n);
        return heldPiece.placeCount;
    }

    public int ofPlace(int k, int what) {
        if (!heldPiece.hasPlace(k)) {
            return UNKNOWN;
        }
        Place place = heldPiece.places[k];
        switch (what) {
            case 0: return place.kind;
            case 1: return place.sureAtFirst;
            case 2: return place.length;
            case 3: return place.lips;
            case 4: return place.from;
            case 5: return place.gains();
            default: return OUTSIDE;
        }
    }

    public int sure(int k, int v) {
        if (!heldPiece.hasPlace(k)) {
            return UNKNOWN;
        }
        if (!isSureness(v)) {
            return OUTSIDE;
        }
        int before = heldPiece.places[k].sureAtFirst;
        heldPiece.places[k].sureAtFirst = v;
        return before;
    }

    public int minutes(int v) {
        if (v < LEAST_MINUTES || v > MOST_MINUTES) {
            return OUTSIDE;
        }
        if (heldPiece.isMissing()) {
            return STATE;
        }
        int before = heldPiece.minutesThere;
        heldPiece.minutesThere = v;
        return before;
    }

    // ---- 2 plans

    public int plan(int sheet, int lane, int i, int n, int what) {
        int refusal = takePlan(sheet, lane, i, n, isAskedOfPlan(what));
        if (refusal != TAKEN) {
            return refusal;
        }
        int wrong = played.playPlan(heldPiece, toldPlan, NONE);
        if (what == 1) {
            return wrong;
        }
        if (wrong != NONE) {
            return BELOW_PLACES_OF_A_ROW - wrong;
        }
        if (what == 0) {
            return played.minute;
        }
        if (what < 20) {
            return heldPiece.hasPlace(what - 10) ? played.sureNow[what - 10] : NONE;
        }
        return heldPiece.hasJoin(what - 20) ? played.joinNow[what - 20] : NONE;
    }

    public long right(int sheet, int lane, int i, int n, int which) {
        if (takePlan(sheet, lane, i, n, isHalfOfShare(which)) != TAKEN) {
            return LOST;
        }
        if (played.playPlan(heldPiece, toldPlan, NONE) != NONE) {
            return LOST;
        }
        return shareOf(played.rightParts(heldPiece), heldPiece.wholeParts(), which);
    }

    public int worse(int sheet, int lane, int i, int n) {
        int refusal = takePlan(sheet, lane, i, n, true);
        if (refusal != TAKEN) {
            return refusal;
        }
        int wrong = played.playPlan(heldPiece, toldPlan, NONE);
        return wrong == NONE ? played.firstWorse : BELOW_PLACES_OF_A_ROW - wrong;
    }

    public long worth(int sheet, int lane, int i, int n, int k) {
        if (takePlan(sheet, lane, i, n, k >= 0 && k < n) != TAKEN) {
            return LOST;
        }
        if (played.playPlan(heldPiece, toldPlan, NONE) != NONE) {
            return LOST;
        }
        long with = played.rightParts(heldPiece);
        if (played.playPlan(heldPiece, toldPlan, k) != NONE) {
            return LOST;
        }
        return with - played.rightParts(heldPiece);
    }

    // ---- 3 the best

    public int best(int n, int q) {
        if (n < 0 || n > MOST_SEARCHED || q < 0 || q >= MOST_SEARCHED) {
            return OUTSIDE;
        }
        if (heldPiece.isMissing()) {
            return STATE;
        }
        search.lookForBest(heldPiece, n);
        return search.keptStep(q);
    }

    public long top(int n, int which) {
        if (n < 0 || n > MOST_SEARCHED || !isHalfOfShare(which) || heldPiece.isMissing()) {
            return LOST;
        }
        search.lookForBest(heldPiece, n);
        return shareOf(search.mostParts, heldPiece.wholeParts(), which);
    }

    public int soonest(int k, int v) {
        if (!heldPiece.hasPlace(k)) {
            return UNKNOWN;
        }
        if (!isSureness(v)) {
            return OUTSIDE;
        }
        return search.leastMinutes(heldPiece, k, v);
    }

    public long luck(int a, int b, int which) {
        if (!isTimesOfLuck(a) || !isTimesOfLuck(b) || !isHalfOfShare(which)) {
            return LOST;
        }
        long weights = 0;
        long weighted = 0;
        for (int tenths = 0; tenths <= MOST_SURE; tenths++) {
            long weight = power(tenths, a) * power(MOST_SURE - tenths, b);
            weights += weight;
            weighted += weight * tenths;
        }
        return shareOf(weighted, MOST_SURE * weights, which);
    }

    // ---- 4 what was seen

    public int reading(int k, int v) {
        if (!heldPiece.hasPlace(k)) {
            return UNKNOWN;
        }
        if (!isSureness(v)) {
            return OUTSIDE;
        }
        Readings readings = heldPiece.readings;
        if (readings.count >= MOST_READINGS) {
            return FULL;
        }
        readings.add(k, v);
        return readings.count - 1;
    }

    public int back(int k) {
        Readings readings = heldPiece.readings;
        if (k < 0 || k > readings.count) {
            return OUTSIDE;
        }
        readings.count -= k;
        return readings.count;
    }

    public int plans(int n, int q) {
        if (n < 0 || n > MOST_SEARCHED || q < -1 || q >= MOST_SEARCHED) {
            return OUTSIDE;
        }
        if (heldPiece.isMissing()) {
            return STATE;
        }
        search.lookForSeen(heldPiece, n);
        return q == -1 ? search.soMany : search.keptStep(q);
    }

    public int kinds(int k, int sheet, int lane, int i, int n) {
        lastFault = NO_FAULT;
        if (!heldPiece.hasPlace(k)) {
            return UNKNOWN;
        }
        int refusal = takePlan(sheet, lane, i, n, true);
        if (refusal != TAKEN) {
            return refusal;
        }
        int wrong = played.playPlan(heldPiece, toldPlan, NONE);
        return wrong == NONE ? kindsThatFit(heldPiece.places[k]) : BELOW_PLACES_OF_A_ROW - wrong;
    }

    // ---- 5 sheets, parts

    public int sheet(int k, int lane, int n) {
        lastFault = NO_FAULT;
        if (!isSheet(k)) {
            return UNKNOWN;
        }
        if (!isLane(lane) || n > MOST_CELLS) {
            return OUTSIDE;
        }
        if (n < 0) {
            return failed(SIZE);
        }
        sheets[k].renew(lane, n);
        return 1;
    }

    public int lose(int k) {
        if (!isSheet(k)) {
            return UNKNOWN;
        }
        boolean had = sheets[k].hasRow;
        sheets[k].hasRow = false;
        return had ? 1 : 0;
    }

    public int put(int k, int i, int v) {
        lastFault = NO_FAULT;
        if (!isSheet(k)) {
            return UNKNOWN;
        }
        Sheet row = sheets[k];
        if (!row.hasRow) {
            return failed(NULL);
        }
        if (!row.hasCell(i)) {
            return failed(INDEX);
        }
        row.cells[i] = row.cut(v);
        return 1;
    }

    public long cell(int k, int i, int lane) {
        lastFault = NO_FAULT;
        if (!isSheet(k) || !isLane(lane)) {
            return LOST;
        }
        Sheet row = sheets[k];
        int fault = row.faultTakenAs(lane);
        if (fault == NO_FAULT && !row.hasCell(i)) {
            fault = INDEX;
        }
        if (fault != NO_FAULT) {
            failed(fault);
            return LOST;
        }
        return row.cells[i];
    }

    public int copy(int k, int i, int other, int j, int n) {
        lastFault = NO_FAULT;
        if (!isSheet(k) || !isSheet(other)) {
            return UNKNOWN;
        }
        Sheet source = sheets[k];
        Sheet goal = sheets[other];
        if (!source.hasRow || !goal.hasRow) {
            return failed(NULL);
        }
        if (source.lane != goal.lane) {
            return failed(CAST);
        }
        if (!source.holds(i, n) || !goal.holds(j, n)) {
            return failed(INDEX);
        }
        System.arraycopy(source.cells, i, goal.cells, j, n);
        return n;
    }

    public int tell(int k) {
        if (!heldPiece.hasPlace(k)) {
            return UNKNOWN;
        }
        Place place = heldPiece.places[k];
        switch (place.kind) {
            case PLAIN: return toldAsPlain(place);
            case KNOTTY: return toldAsKnotty(place);
            default: return toldAsHigh(place);
        }
    }

    public int hum(int k) {
        if (!heldPiece.hasPlace(k)) {
            return UNKNOWN;
        }
        if (heldPiece.places[k].kind == HIGH) {
            leaveTrace(5);
            return 30;
        }
        leaveTrace(4);
        return k;
    }

    public int as(int k, int kind) {
        lastFault = NO_FAULT;
        if (!heldPiece.hasPlace(k)) {
            return UNKNOWN;
        }
        if (kind < PLAIN || kind > HIGH) {
            return OUTSIDE;
        }
        return heldPiece.places[k].isAlso(kind) ? 1 : failed(CAST);
    }

    public int trace() {
        return traced;
    }

    public int fault() {
        return lastFault;
    }

    public int many(int what) {
        switch (what) {
            case 0: return heldPiece.placeCount;
            case 1: return heldPiece.joinCount();
            case 2: return heldPiece.minutesThere;
            case 3: return heldPiece.readings.count;
            default: return OUTSIDE;
        }
    }

    // ---- what the calls share

    private static boolean isSheet(int k) {
        return k >= 0 && k < MOST_SHEETS;
    }

    private static boolean isLane(int lane) {
        return lane >= BYTES && lane <= INTS;
    }

    private static boolean isSureness(int v) {
        return v >= 0 && v <= MOST_SURE;
    }

    private static boolean isHalfOfShare(int which) {
        return which == 0 || which == 1;
    }

    private static boolean isTimesOfLuck(int times) {
        return times >= 0 && times <= MOST_TIMES_OF_LUCK;
    }

    private static boolean isAskedOfPlan(int what) {
        return what == 0 || what == 1
            || what >= 10 && what < 10 + MOST_PLACES
            || what >= 20 && what < 20 + MOST_JOINS;
    }

    private int failed(int fault) {
        lastFault = fault;
        return BELOW_FAULTS - fault;
    }

    /** Takes the cells as the plan that the call is about: TAKEN, or what the call answers instead. */
    private int takePlan(int sheet, int lane, int i, int n, boolean isAsTold) {
        lastFault = NO_FAULT;
        if (!isSheet(sheet)) {
            return UNKNOWN;
        }
        if (!isLane(lane) || n < 0 || n > MOST_STEPS || !isAsTold) {
            return OUTSIDE;
        }
        Sheet row = sheets[sheet];
        int fault = row.faultOfCells(lane, i, n);
        if (fault != NO_FAULT) {
            return failed(fault);
        }
        if (heldPiece.isMissing()) {
            return STATE;
        }
        for (int s = 0; s < n; s++) {
            if (!heldPiece.hasStep(row.cells[i + s])) {
                return UNKNOWN;
            }
            toldPlan.steps[s] = row.cells[i + s];
        }
        toldPlan.count = n;
        return TAKEN;
    }

    /** The kind is lent to the place for the while; whether the plan can be does not hang on it. */
    private int kindsThatFit(Place place) {
        int own = place.kind;
        int fitting = 0;
        for (int kind = PLAIN; kind <= HIGH; kind++) {
            place.kind = kind;
            played.playPlan(heldPiece, toldPlan, NONE);
            if (heldPiece.readings.areSo(played)) {
                fitting |= 1 << kind;
            }
        }
        place.kind = own;
        return fitting;
    }

    private void leaveTrace(int body) {
        traced = 31 * traced + body;
    }

    private int toldAsPlain(Place place) {
        leaveTrace(1);
        return place.length;
    }

    private int toldAsKnotty(Place place) {
        leaveTrace(2);
        return toldAsPlain(place) + 100;
    }

    private int toldAsHigh(Place place) {
        leaveTrace(3);
        int asKnotty = toldAsKnotty(place);
        return asKnotty + toldAsPlain(place);
    }

    /** The upper (which 0) or lower number of a share in least terms; the lower one is above 0. */
    private static long shareOf(long upper, long lower, int which) {
        long common = commonDivisor(upper, lower);
        if (common <= 0) {
            return LOST;
        }
        return (which == 0 ? upper : lower) / common;
    }

    private static long commonDivisor(long one, long other) {
        long a = one;
        long b = other;
        // Euclid's way needs fewer turns than twice the bits of a long.
        for (int turn = 0; turn < 128 && b != 0; turn++) {
            long rest = a % b;
            a = b;
            b = rest;
        }
        return a;
    }

    private static long power(int base, int times) {
        long product = 1;
        for (int t = 0; t < times; t++) {
            product *= base;
        }
        return product;
    }

    /** A row of numbers of a lane, or nothing; its cells stay where they are when it is made anew. */
    private static final class Sheet {
        final int[] cells = new int[MOST_CELLS];
        boolean hasRow;
        int lane;
        int length;

        void renew(int newLane, int newLength) {
            hasRow = true;
            lane = newLane;
            length = newLength;
            Arrays.fill(cells, 0);
        }

        int faultTakenAs(int asLane) {
            if (!hasRow) {
                return NULL;
            }
            return lane == asLane ? NO_FAULT : CAST;
        }

        int faultOfCells(int asLane, int i, int n) {
            int fault = faultTakenAs(asLane);
            if (fault != NO_FAULT) {
                return fault;
            }
            if (n < 0) {
                return SIZE;
            }
            return holds(i, n) ? NO_FAULT : INDEX;
        }

        boolean hasCell(int i) {
            return i >= 0 && i < length;
        }

        boolean holds(int i, int n) {
            return i >= 0 && i <= length && n >= 0 && n <= length - i;
        }

        int cut(int v) {
            switch (lane) {
                case BYTES: return (byte) v;
                case SHORTS: return (short) v;
                default: return v;
            }
        }
    }

    private static final class Place {
        int kind;
        int sureAtFirst;
        int length;
        int lips;
        int from;

        int gains() {
            int ofPlain = 3;
            int ofKnotty = ofPlain - 1;
            switch (kind) {
                case PLAIN: return ofPlain;
                case KNOTTY: return ofKnotty;
                default: return ofKnotty / 2;
            }
        }

        /** Kinds are numbered so that each is also all those below it. */
        boolean isAlso(int otherKind) {
            return otherKind <= kind;
        }
    }

    /** The places are made once; how many of them there are tells which of them count. */
    private static final class Piece {
        final Place[] places = new Place[MOST_PLACES];
        final Readings readings = new Readings();
        int placeCount;
        int minutesThere;

        Piece() {
            for (int k = 0; k < MOST_PLACES; k++) {
                places[k] = new Place();
            }
        }

        boolean isMissing() {
            return placeCount == 0;
        }

        boolean hasPlace(int k) {
            return k >= 0 && k < placeCount;
        }

        int joinCount() {
            return Math.max(placeCount - 1, 0);
        }

        boolean hasJoin(int k) {
            return k >= 0 && k < joinCount();
        }

        boolean hasStep(int step) {
            return step == RUN || step == BREAK || hasPlace(step) || hasPlace(step - SLOW);
        }

        int minutesOf(int step) {
            if (step == BREAK) {
                return 15;
            }
            if (step == RUN) {
                return allLengths();
            }
            int once = places[placeOf(step)].length;
            return isSlow(step) ? 2 * once : once;
        }

        private int allLengths() {
            int all = 0;
            for (int k = 0; k < placeCount; k++) {
                all += places[k].length;
            }
            return all;
        }

        /** 10 to as many as there are places and joins: what RIGHT is told in parts of. */
        long wholeParts() {
            return power(MOST_SURE, placeCount + joinCount());
        }

        static boolean isOfPlace(int step) {
            return step < RUN;
        }

        static boolean isSlow(int step) {
            return step >= SLOW;
        }

        static int placeOf(int step) {
            return step < SLOW ? step : step - SLOW;
        }
    }

    /** How a piece is written: c, two digits of minutes, then six codes for each place. */
    private static final class Text {
        private static final int HEAD = 3;
        private static final int CODES_OF_PLACE = 6;
        private static final int LONGEST = HEAD + MOST_PLACES * CODES_OF_PLACE;

        /** The first fault, from 0 on; NONE, if the text is whole. */
        static int firstFault(int[] cells, int start, int n) {
            for (int at = 0; at < n; at++) {
                int before = at > 0 ? cells[start + at - 1] : 0;
                if (!goesOn(at, before, cells[start + at])) {
                    return at;
                }
            }
            boolean isWhole = n > HEAD && (n - HEAD) % CODES_OF_PLACE == 0;
            return isWhole ? NONE : n;
        }

        private static boolean goesOn(int at, int before, int code) {
            switch (at) {
                case 0: return code == 'c';
                case 1: return isDigit(code, 0, 6);
                case 2: return endsMinutes(before, code);
                default: return at < LONGEST && goesOnInPlace((at - HEAD) % CODES_OF_PLACE, code);
            }
        }

        private static boolean goesOnInPlace(int at, int code) {
            switch (at) {
                case 0: return code == ';';
                case 1: return kindBy(code) != NONE;
                case 2: return isDigit(code, 0, 9);
                case 3: return isDigit(code, 1, 9);
                case 4: return isDigit(code, 1, 9);
                default: return isDigit(code, 0, 5);
            }
        }

        private static boolean endsMinutes(int first, int second) {
            if (!isDigit(second, 0, 9)) {
                return false;
            }
            int there = 10 * digit(first) + digit(second);
            return there >= LEAST_MINUTES && there <= MOST_MINUTES;
        }

        private static boolean isDigit(int code, int least, int most) {
            return code >= '0' + least && code <= '0' + most;
        }

        private static int digit(int code) {
            return code - '0';
        }

        private static int kindBy(int code) {
            switch (code) {
                case 'p': return PLAIN;
                case 'k': return KNOTTY;
                case 'h': return HIGH;
                default: return NONE;
            }
        }

        /** Makes the piece anew by a text, one without a first fault. */
        static void fill(Piece piece, int[] cells, int start, int n) {
            piece.readings.count = 0;
            piece.minutesThere = 10 * digit(cells[start + 1]) + digit(cells[start + 2]);
            piece.placeCount = Math.min((n - HEAD) / CODES_OF_PLACE, MOST_PLACES);
            for (int k = 0; k < piece.placeCount; k++) {
                int at = start + HEAD + k * CODES_OF_PLACE;
                Place place = piece.places[k];
                place.kind = kindBy(cells[at + 1]);
                place.sureAtFirst = digit(cells[at + 2]);
                place.length = digit(cells[at + 3]);
                place.lips = digit(cells[at + 4]);
                place.from = digit(cells[at + 5]);
            }
        }
    }

    private static final class Plan {
        final int[] steps = new int[MOST_STEPS];
        int count;
    }

    /** How things stand while a plan is played. */
    private static final class Playing {
        private static final int TIRED_AFTER = 40;
        private static final int JOIN_AT_FIRST = 5;
        private static final int JOIN_GAINS = 2;

        final int[] sureNow = new int[MOST_PLACES];
        final int[] joinNow = new int[MOST_JOINS];
        final int[] timesPlayed = new int[MOST_PLACES];
        int minute;
        int restedAt;
        int firstWorse;

        void begin(Piece piece) {
            for (int k = 0; k < MOST_PLACES; k++) {
                sureNow[k] = piece.places[k].sureAtFirst;
            }
            Arrays.fill(joinNow, JOIN_AT_FIRST);
            Arrays.fill(timesPlayed, 0);
            minute = 0;
            restedAt = 0;
        }

        void becomeLike(Playing other) {
            System.arraycopy(other.sureNow, 0, sureNow, 0, MOST_PLACES);
            System.arraycopy(other.joinNow, 0, joinNow, 0, MOST_JOINS);
            System.arraycopy(other.timesPlayed, 0, timesPlayed, 0, MOST_PLACES);
            minute = other.minute;
            restedAt = other.restedAt;
        }

        /** Plays a plan from its beginning, one step left out (NONE: none): its first wrong, or NONE. */
        int playPlan(Piece piece, Plan plan, int leftOut) {
            begin(piece);
            firstWorse = NONE;
            for (int s = 0; s < plan.count; s++) {
                if (s == leftOut) {
                    continue;
                }
                if (!canBe(piece, plan.steps[s])) {
                    return s;
                }
                boolean madeWorse = playStep(piece, plan.steps[s]);
                if (madeWorse && firstWorse == NONE) {
                    firstWorse = s;
                }
            }
            return NONE;
        }

        boolean canBe(Piece piece, int step) {
            if (minute + piece.minutesOf(step) > piece.minutesThere) {
                return false;
            }
            // A run asks for nobody: only a place that is played by itself waits for its people.
            return !Piece.isOfPlace(step) || minute >= 10 * piece.places[Piece.placeOf(step)].from;
        }

        /** Plays a step, whether or not it can be: did it make a place less sure? */
        boolean playStep(Piece piece, int step) {
            boolean isTired = minute - restedAt >= TIRED_AFTER;
            boolean madeWorse = false;
            int takes = piece.minutesOf(step);
            if (step == BREAK) {
                restedAt = minute + takes;
            } else if (step == RUN) {
                runThrough(isTired);
            } else {
                madeWorse = playPlace(piece, step, isTired);
            }
            minute += takes;
            return madeWorse;
        }

        private void runThrough(boolean isTired) {
            if (isTired) {
                return;
            }
            for (int k = 0; k < MOST_JOINS; k++) {
                joinNow[k] = Math.min(joinNow[k] + JOIN_GAINS, MOST_SURE);
            }
        }

        private boolean playPlace(Piece piece, int step, boolean isTired) {
            int k = Piece.placeOf(step);
            Place place = piece.places[k];
            int before = sureNow[k];
            if (timesPlayed[k] >= place.lips) {
                sureNow[k] = Math.max(before - 1, 0);
            } else if (!isTired) {
                int gains = Piece.isSlow(step) ? 2 * place.gains() : place.gains();
                sureNow[k] = Math.min(before + gains, MOST_SURE);
            }
            timesPlayed[k]++;
            return sureNow[k] < before;
        }

        long rightParts(Piece piece) {
            long parts = 1;
            for (int k = 0; k < piece.placeCount; k++) {
                parts *= sureNow[k];
            }
            for (int k = 0; k < piece.joinCount(); k++) {
                parts *= joinNow[k];
            }
            return parts;
        }
    }

    private static final class Readings {
        final int[] placeOf = new int[MOST_READINGS];
        final int[] sureOf = new int[MOST_READINGS];
        int count;

        void add(int place, int sureness) {
            placeOf[count] = place;
            sureOf[count] = sureness;
            count++;
        }

        boolean areSo(Playing end) {
            for (int r = 0; r < count; r++) {
                if (end.sureNow[placeOf[r]] != sureOf[r]) {
                    return false;
                }
            }
            return true;
        }
    }

    /** Goes through all plans of a few steps, as rows: each right behind the one it goes on from. */
    private static final class Search {
        private static final int NOTHING_KEPT = -1;

        private final Playing[] after = new Playing[MOST_FOR_SOONEST + 1];
        private final int[] tried = new int[MOST_SEARCHED];
        private final int[] kept = new int[MOST_SEARCHED];
        private int keptCount;
        private boolean isForBest;
        private int least;
        long mostParts;
        int soMany;

        Search() {
            for (int depth = 0; depth <= MOST_FOR_SOONEST; depth++) {
                after[depth] = new Playing();
            }
        }

        void lookForBest(Piece piece, int most) {
            isForBest = true;
            lookThrough(piece, most);
        }

        void lookForSeen(Piece piece, int most) {
            isForBest = false;
            lookThrough(piece, most);
        }

        int keptStep(int q) {
            return q >= 0 && q < keptCount ? kept[q] : NONE;
        }

        private void lookThrough(Piece piece, int most) {
            keptCount = NOTHING_KEPT;
            mostParts = -1;
            soMany = 0;
            after[0].begin(piece);
            tryFrom(piece, 0, Math.min(most, MOST_SEARCHED));
        }

        private void tryFrom(Piece piece, int depth, int most) {
            if (isForBest) {
                weighBest(piece, depth);
            } else {
                weighSeen(piece, depth);
            }
            if (depth >= most) {
                return;
            }
            for (int step : STEPS) {
                if (piece.hasStep(step) && after[depth].canBe(piece, step)) {
                    tried[depth] = step;
                    after[depth + 1].becomeLike(after[depth]);
                    after[depth + 1].playStep(piece, step);
                    tryFrom(piece, depth + 1, most);
                }
            }
        }

        private void weighBest(Piece piece, int depth) {
            long parts = after[depth].rightParts(piece);
            if (parts > mostParts || parts == mostParts && depth < keptCount) {
                mostParts = parts;
                keep(depth);
            }
        }

        private void weighSeen(Piece piece, int depth) {
            if (!piece.readings.areSo(after[depth])) {
                return;
            }
            soMany++;
            if (keptCount == NOTHING_KEPT || depth < keptCount) {
                keep(depth);
            }
        }

        /** Of plans of as many steps the first as a row is come to first, and stays. */
        private void keep(int depth) {
            System.arraycopy(tried, 0, kept, 0, depth);
            keptCount = depth;
        }

        int leastMinutes(Piece piece, int k, int v) {
            least = NONE;
            after[0].begin(piece);
            trySoonest(piece, 0, k, v);
            return least;
        }

        /** Whether a step can be is not asked: its FROM counts as 0, and there are minutes enough. */
        private void trySoonest(Piece piece, int depth, int k, int v) {
            Playing now = after[depth];
            if (now.sureNow[k] >= v && (least == NONE || now.minute < least)) {
                least = now.minute;
            }
            if (depth >= MOST_FOR_SOONEST) {
                return;
            }
            for (int way = 0; way < 3; way++) {
                int step = way == 0 ? k : way == 1 ? SLOW + k : BREAK;
                after[depth + 1].becomeLike(now);
                after[depth + 1].playStep(piece, step);
                trySoonest(piece, depth + 1, k, v);
            }
        }
    }
}

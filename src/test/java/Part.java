import java.util.Set;

/** What the tests of the document's parts share: each tells a sentence, then makes calls that show it. */
abstract class Part {
    static final int UNKNOWN = -1, OUTSIDE = -2, STATE = -3, FULL = -4, NONE = -9;
    static final int NULL = 1, CAST = 2, INDEX = 3, SIZE = 4;
    static final long LOST = Long.MIN_VALUE;
    static final int BIG = Integer.MAX_VALUE, SMALL = Integer.MIN_VALUE;

    private static final Set<String> NAME_FAULTS = Set.of("piece", "plan", "right", "worse", "worth", "kinds", "sheet",
        "put", "cell", "copy", "as");
    private static final Set<String> ANSWER_LONGS = Set.of("right", "worth", "top", "luck", "cell");

    private final Checks checks;
    private final Sentences sentences;

    Part(Checks checks, Sentences sentences) {
        this.checks = checks;
        this.sentences = sentences;
    }

    abstract void show();

    void preface(String words) {
        sentences.preface(words);
    }

    void terms(String words) {
        sentences.terms(words);
    }

    void promise(int number, String words) {
        sentences.promise(number, words);
    }

    void due(String call, long got, long want) {
        checks.due(call, got, want);
    }

    void due(HourRehearsal x, String call, long want) {
        due(call, Calls.answer(x, call), want);
    }

    /**
     * The object that refused calls are made on: three places, 55 minutes, two readings, a trace; a text on
     * sheet 0 (21 bytes), on sheet 1 (5 ints) three steps that can be, one that can't, and one that is none,
     * sheet 2 (2 shorts), sheet 3 with nothing.
     */
    static HourRehearsal prepared() {
        HourRehearsal x = withoutPiece();
        x.piece(0, 0, 0, 21);
        x.minutes(55);
        x.sure(1, 7);
        x.reading(0, 6);
        x.reading(1, 7);
        x.tell(2);
        return x;
    }

    static HourRehearsal withoutPiece() {
        HourRehearsal x = new HourRehearsal();
        Desk.write(x, "c50;p3520;k6413;h2212");
        Desk.steps(x, 0, 10, 20, 1, 22);
        x.sheet(2, 1, 2);
        return x;
    }

    /** A call on a prepared object is refused. */
    void refused(String call, long want) {
        refused(prepared(), call, want);
    }

    /** A call is refused: all stays as it was, but for fault(), if the call names FAULTS. */
    void refused(HourRehearsal x, String call, long want) {
        String before = Desk.seen(x);
        x.sheet(3, 0, -1);
        due("fault() ahead of " + call, x.fault(), SIZE);
        due(x, call, want);
        due("fault() behind " + call, x.fault(), NAME_FAULTS.contains(nameOf(call)) ? 0 : SIZE);
        stays(x, before, call);
    }

    /** A call on a prepared object comes to a fault. */
    void faulty(String call, int fault) {
        faulty(prepared(), call, fault);
    }

    /** A call comes to a fault: all stays as it was, and fault() tells it. */
    void faulty(HourRehearsal x, String call, int fault) {
        String before = Desk.seen(x);
        x.put(4, 0, 0);
        due("fault() ahead of " + call, x.fault(), 0);
        due(x, call, ANSWER_LONGS.contains(nameOf(call)) ? LOST : -10 - fault);
        due("fault() behind " + call, x.fault(), fault);
        stays(x, before, call);
    }

    /** Calls on prepared objects are refused, with each of these numbers for the # of the call. */
    void refusedFor(String call, long want, int... wrong) {
        for (int number : wrong) {
            refused(call.replace("#", String.valueOf(number)), want);
        }
    }

    void faultyFor(String call, int fault, int... wrong) {
        for (int number : wrong) {
            faulty(call.replace("#", String.valueOf(number)), fault);
        }
    }

    void allRefused(long want, String... calls) {
        for (String call : calls) {
            refused(call, want);
        }
    }

    void allFaulty(int fault, String... calls) {
        for (String call : calls) {
            faulty(call, fault);
        }
    }

    private static String nameOf(String call) {
        return call.substring(0, call.indexOf('('));
    }

    private void stays(HourRehearsal x, String before, String call) {
        checks.that(call + " changes nothing", before.equals(Desk.seen(x)));
    }
}

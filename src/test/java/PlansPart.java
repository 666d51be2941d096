/** Part 2 of the terms, RIGHT and WORTH and WORSE of the others, promises 6 to 9: plans that are told. */
final class PlansPart extends Part {
    /** Place 0 is long, places 1 and 2 are short; all lips bear nine times. */
    private static final String LONG_AND_SHORT = "c60;p0990;p0190;p0190";
    private static final int[] TO_39 = {0, 0, 0, 0, 1, 1, 1};
    private static final int[] TO_40 = {0, 0, 0, 0, 1, 1, 1, 1};
    /** Twenty steps, of which only the last one makes a place less sure. */
    private static final String NINE_NINE_ONE = "c60;p5190;p5190;p5110";
    private static final int[] TWENTY = join(join(times(9, 0), times(9, 1)), 2, 2);

    PlansPart(Checks checks, Sentences sentences) {
        super(checks, sentences);
    }

    @Override
    void show() {
        steps();
        theyTake();
        stepByStep();
        behindTheMinutes();
        aheadOfFrom();
        firstWrong();
        tired();
        lips();
        gainsMore();
        runs();
        sureAtLeastAtMost();
        plan();
        planRefusals();
        planFaults();
        right();
        rightLost();
        worse();
        worth();
        worthLost();
    }

    private static int[] join(int[] first, int... then) {
        int[] both = java.util.Arrays.copyOf(first, first.length + then.length);
        System.arraycopy(then, 0, both, first.length, then.length);
        return both;
    }

    private static int[] times(int count, int step) {
        int[] row = new int[count];
        java.util.Arrays.fill(row, step);
        return row;
    }

    private void steps() {
        terms("==== 2 STEPS of a PLAN: 0 .. 5: that PLACE, quick; 10 .. 15: PLACE 0 .. 5, slow; 20: RUN through;"
            + " 21: a BREAK.");
        StringBuilder text = new StringBuilder("c60");
        for (int count = 1; count <= 6; count++) {
            text.append(";p1190");
            HourRehearsal x = Desk.with(text.toString());
            for (int step = -12; step <= 32; step++) {
                boolean isQuick = step >= 0 && step < count;
                boolean isSlow = step >= 10 && step < 10 + count;
                boolean isOne = isQuick || isSlow || step == 20 || step == 21;
                due("step " + step + " of " + count + " places", Desk.plan(x, 1, step), isOne ? NONE : UNKNOWN);
            }
        }
        HourRehearsal x = Desk.with(text.toString());
        for (int k = 0; k < 6; k++) {
            due("quick", Desk.plan(x, 10 + k, k), 4);
            due("slow", Desk.plan(x, 10 + k, 10 + k), 7);
        }
        for (int step : new int[] {BIG, SMALL, 256, -256, 65536, SMALL + 10, BIG - 5}) {
            due("step " + step, Desk.plan(x, 1, step), UNKNOWN);
        }
    }

    private void theyTake() {
        terms("They TAKE: quick LONG; slow twice LONG; RUN all LONGS together; a BREAK 15 MINUTES.");
        HourRehearsal x = Desk.with("c60;p5190;k5990;h5490");
        int[] longs = {1, 9, 4};
        for (int k = 0; k < 3; k++) {
            due("quick", Desk.plan(x, 0, k), longs[k]);
            due("slow", Desk.plan(x, 0, 10 + k), 2 * longs[k]);
        }
        due("run", Desk.plan(x, 0, 20), 14);
        due("break", Desk.plan(x, 0, 21), 15);
        due("one of each", Desk.plan(x, 0, 0, 10, 20, 21), 1 + 2 + 14 + 15);
        due("the longest run", Desk.plan(Desk.with("c60;p5990;p5990;p5990;p5990;p5990;p5990"), 0, 20), 54);
        due("a run after a larger piece", longestThenOne(), 3);
    }

    private static int longestThenOne() {
        HourRehearsal x = Desk.with("c60;p5990;p5990;p5990");
        Desk.take(x, "c60;p5390");
        return Desk.plan(x, 0, 20);
    }

    private void stepByStep() {
        terms("A PLAN goes STEP by STEP from MINUTE 0 on.");
        HourRehearsal x = Desk.with("c60;p0111;p0990");
        due("no step", Desk.plan(x, 0), 0);
        due("no step is wrong", Desk.plan(x, 1), NONE);
        due("at 0", Desk.plan(x, 1, 1), NONE);
        due("behind the other one", Desk.plan(x, 1, 11, 0), NONE);
        due("ahead of the other one", Desk.plan(x, 1, 0, 11), 0);
        due("twenty", Desk.plan(Desk.with("c60;p0190"), 0, times(20, 0)), 20);
    }

    private void behindTheMinutes() {
        terms("A STEP can't be, if it would end behind the MINUTES there are,");
        int[] steps = {1, 10, 20, 21};
        int[] take = {9, 8, 13, 15};
        HourRehearsal x = Desk.with("c60;p0490;p0990");
        for (int t = 0; t < steps.length; t++) {
            x.minutes(take[t]);
            due("step " + steps[t] + " ends with them", Desk.plan(x, 1, steps[t]), NONE);
            x.minutes(take[t] - 1);
            due("step " + steps[t] + " ends behind them", Desk.plan(x, 1, steps[t]), 0);
        }
        x.minutes(60);
        due("four breaks", Desk.plan(x, 1, 21, 21, 21, 21), NONE);
        due("nothing behind them", Desk.plan(x, 1, 21, 21, 21, 21, 0), 4);
        due("60 of six", Desk.plan(x, 1, 21, 21, 20, 1, 0, 0), NONE);
        due("61 of five", Desk.plan(x, 1, 21, 21, 20, 1, 1), 4);
    }

    private void aheadOfFrom() {
        terms("or its PLACE is played ahead of MINUTE 10 times FROM.");
        for (int from = 1; from <= 5; from++) {
            HourRehearsal x = Desk.with("c60;p5990;p5190;p519" + from);
            int[] late = join(times(from, 0), times(from, 1));
            int[] early = join(times(from, 0), times(from - 1, 1));
            due("quick at " + 10 * from, Desk.plan(x, 1, join(late, 2)), NONE);
            due("slow at " + 10 * from, Desk.plan(x, 1, join(late, 12)), NONE);
            due("quick a minute ahead", Desk.plan(x, 1, join(early, 2)), early.length);
            due("slow a minute ahead", Desk.plan(x, 1, join(early, 12)), early.length);
            due("a run at 0", Desk.plan(x, 1, 20), NONE);
            due("a break at 0", Desk.plan(x, 1, 21), NONE);
        }
        due("from 0", Desk.plan(Desk.with("c60;p5190"), 1, 0), NONE);
        due("a run of places that all wait", Desk.plan(Desk.with("c60;p5195;p5195"), 1, 20), NONE);
    }

    private void firstWrong() {
        terms("FIRST WRONG: the first that can't be.");
        HourRehearsal x = Desk.with("c60;p5990;p5191");
        due("the first of two", Desk.plan(x, 1, 1, 1), 0);
        due("what could be behind it", Desk.plan(x, 1, 0, 1, 0), 1);
        due("what was wrong alone", Desk.plan(x, 1, 0, 0, 1), NONE);
        due("the last of twenty", Desk.plan(Desk.with("c19;p5190"), 1, times(20, 0)), 19);
        due("a shorter one behind it", Desk.plan(Desk.with("c10;p5990;p5190"), 1, 0, 0, 1), 1);
    }

    private void tired() {
        terms("TIRED: 40 MINUTES or more have gone by since the BREAK ended (or since MINUTE 0), as a STEP begins.");
        HourRehearsal x = Desk.with(LONG_AND_SHORT);
        due("at 39", Desk.plan(x, 12, join(TO_39, 2)), 3);
        due("at 40", Desk.plan(x, 12, join(TO_40, 2)), 0);
        due("at 41", Desk.plan(x, 12, join(TO_40, 1, 2)), 0);
        due("39 since a break", Desk.plan(x, 12, join(join(new int[] {21}, TO_39), 2)), 3);
        due("40 since a break", Desk.plan(x, 12, join(join(new int[] {21}, TO_40), 2)), 0);
        due("a break at 40", Desk.plan(x, 12, join(TO_40, 21, 2)), 3);
        due("that break was another plan's", Desk.plan(x, 12, join(TO_40, 2)), 0);
        x = Desk.with(LONG_AND_SHORT);
        due("40 since the first break", Desk.plan(x, 12, join(new int[] {21, 0, 21, 0}, join(times(7, 1), 2))), 3);
        due("a run is no break", Desk.plan(x, 12, join(new int[] {20}, join(times(3, 0), 1, 1, 2))), 0);
        x = Desk.with("c60;p0990;p0990");
        due("begins at 36, ends at 45", Desk.plan(x, 11, 0, 0, 0, 0, 1), 3);
        due("begins at 45", Desk.plan(x, 11, 0, 0, 0, 0, 0, 1), 0);
    }

    private void lips() {
        terms("Of a PLACE that is played, quick or slow: how often it was played ahead of that in the PLAN, if it is LIPS"
            + " or more: it becomes 1 less SURE;");
        for (int lips = 1; lips <= 9; lips++) {
            HourRehearsal x = Desk.with("c60;h01" + lips + "0;p5190");
            due("as often as lips bear it", Desk.plan(x, 10, times(lips, 0)), lips);
            due("once more", Desk.plan(x, 10, times(lips + 1, 0)), lips - 1);
            due("once more, slow", Desk.plan(x, 10, join(times(lips, 0), 10)), lips - 1);
            due("twice more", Desk.plan(x, 10, times(lips + 2, 0)), Math.max(lips - 2, 0));
            due("others, runs, breaks are none", Desk.plan(x, 10, join(new int[] {1, 20, 21}, times(lips, 0))), lips);
        }
        HourRehearsal x = Desk.with("c60;p0120;p5990");
        due("slow ones count", Desk.plan(x, 10, 10, 10, 0), 9);
        due("tired, it becomes less, too", Desk.plan(x, 10, 0, 0, 11, 11, 1, 0), 5);
        due("not tired any more, it becomes less", Desk.plan(x, 10, 11, 11, 21, 0, 0, 0), 5);
        x = Desk.with("c60;p5910;p5420;p5110");
        due("tired, once", Desk.plan(x, 12, 10, 10, 1, 2), 5);
        due("tired ones count", Desk.plan(x, 12, 10, 10, 1, 2, 2), 4);
    }

    private void gainsMore() {
        terms("else, if not TIRED: SURE by its GAINS more (slow: twice that).");
        HourRehearsal x = Desk.with("c60;p2190;k2190;h2190;p0990;p0490");
        for (int k = 0; k < 3; k++) {
            due("quick", Desk.plan(x, 10 + k, k), 5 - k);
            due("slow", Desk.plan(x, 10 + k, 10 + k), 8 - 2 * k);
            due("quick, tired", Desk.plan(x, 10 + k, 13, 13, 4, k), 2);
            due("slow, tired", Desk.plan(x, 10 + k, 13, 13, 4, 10 + k), 2);
            due("another one", Desk.plan(x, 10 + k, (k + 1) % 3), 2);
        }
    }

    private void runs() {
        terms("A RUN that is not TIRED makes each JOIN 2 more SURE.");
        HourRehearsal x = Desk.with("c60;p1110;p1110;p1110;p1110;p1110;p1110");
        for (int k = 0; k < 5; k++) {
            due("join " + k, Desk.plan(x, 20 + k, 20), 7);
            due("join " + k + ", two runs", Desk.plan(x, 20 + k, 20, 20), 9);
        }
        for (int k = 0; k < 6; k++) {
            due("place " + k, Desk.plan(x, 10 + k, 20), 1);
        }
        x = Desk.with(LONG_AND_SHORT);
        for (int k = 0; k < 2; k++) {
            due("join " + k + " at 39", Desk.plan(x, 20 + k, join(TO_39, 20)), 7);
            due("join " + k + " at 40", Desk.plan(x, 20 + k, join(TO_40, 20)), 5);
        }
    }

    private void sureAtLeastAtMost() {
        terms("SURE is 0 at least, 10 at most.");
        HourRehearsal x = Desk.with("c60;p7110;p8110;p9110;p0110");
        for (int k = 0; k < 3; k++) {
            due("ten by quick", Desk.plan(x, 10 + k, k), 10);
            due("ten by slow", Desk.plan(x, 10 + k, 10 + k), 10);
        }
        x.sure(3, 10);
        due("ten stays ten", Desk.plan(x, 13, 3), 10);
        due("join, three runs", Desk.plan(x, 20, 20, 20, 20), 10);
        due("join, four runs", Desk.plan(x, 22, 20, 20, 20, 20), 10);
        x.sure(3, 0);
        due("3, 2, 1, 0", Desk.plan(x, 13, 3, 3, 3, 3), 0);
        due("0 stays 0", Desk.plan(x, 13, 3, 3, 3, 3, 3, 13), 0);
    }

    private void plan() {
        promise(6, "A PLAN of n such cells: MINUTES it TAKES (what 0),");
        HourRehearsal x = prepared();
        due(x, "plan(1, 2, 0, 0, 0)", 0);
        due(x, "plan(1, 2, 0, 3, 0)", 26);
        due(x, "plan(1, 2, 1, 2, 0)", 21);
        for (int lane = 0; lane < 3; lane++) {
            Desk.row(x, 3, lane, 99, 0, 21);
            due("lane " + lane, x.plan(3, lane, 1, 2, 0), 20);
        }
        Desk.row(x, 3, 0, 256, 256 + 21);
        due("bytes are cut ahead of it", x.plan(3, 0, 0, 2, 0), 20);
        x.sheet(3, 2, 60);
        due("the last twenty of a whole row", x.plan(3, 2, 40, 20, 1), 11);
        promise(6, "its FIRST WRONG (1; NONE);");
        x = prepared();
        due(x, "plan(1, 2, 0, 3, 1)", NONE);
        due(x, "plan(1, 2, 0, 4, 1)", 3);
        due(x, "plan(1, 2, 3, 1, 1)", 0);
        promise(6, "how SURE PLACE k is at its end (10 and k), JOIN k (20 and k; NONE: there is no such PLACE, JOIN);");
        int[] places = {10, 7, 2, NONE, NONE, NONE};
        int[] joins = {7, 7, NONE, NONE, NONE};
        for (int k = 0; k < 6; k++) {
            due("place " + k, x.plan(1, 2, 0, 3, 10 + k), places[k]);
        }
        for (int k = 0; k < 5; k++) {
            due("join " + k, x.plan(1, 2, 0, 3, 20 + k), joins[k]);
        }
        promise(6, "of one with a FIRST WRONG: -100 less that (but what 1).");
        for (int what : new int[] {0, 10, 11, 15, 20, 24}) {
            due("what " + what, x.plan(1, 2, 0, 4, what), -103);
        }
        due("what 1", x.plan(1, 2, 0, 4, 1), 3);
        due("the last of twenty", Desk.plan(Desk.with("c19;p5190"), 0, times(20, 0)), -119);
    }

    private void planRefusals() {
        promise(6, "UNKNOWN: SHEET;");
        refusedFor("plan(#, 2, 0, 3, 0)", UNKNOWN, -1, 4, BIG, SMALL);
        promise(6, "OUTSIDE: lane, n (0 .. 20), what (0, 1, 10 .. 15, 20 .. 24);");
        refusedFor("plan(1, #, 0, 3, 0)", OUTSIDE, -1, 3, BIG, SMALL);
        refusedFor("plan(1, 2, 0, #, 0)", OUTSIDE, -1, 21, BIG, SMALL);
        due("twenty cells are too many here, not outside", prepared().plan(1, 2, 0, 20, 0), -10 - INDEX);
        refusedFor("plan(1, 2, 0, 3, #)", OUTSIDE, SMALL, -1, 2, 9, 16, 19, 25, BIG);
        promise(6, "STATE: there is no PIECE;");
        refused(withoutPiece(), "plan(1, 2, 0, 3, 0)", STATE);
        refused(withoutPiece(), "plan(1, 2, 0, 0, 1)", STATE);
        promise(6, "UNKNOWN: a STEP (of no PLACE, too).");
        refused("plan(1, 2, 4, 1, 0)", UNKNOWN);
        refused("plan(1, 2, 3, 2, 1)", UNKNOWN);
        for (int step : new int[] {-1, 3, 5, 6, 9, 13, 15, 16, 19, 22, BIG, SMALL}) {
            HourRehearsal x = prepared();
            x.put(1, 2, step);
            refused(x, "plan(1, 2, 0, 3, 1)", UNKNOWN);
        }
    }

    private void planFaults() {
        promise(6, "FAULTS CAST, NULL, INDEX;");
        faulty("plan(1, 0, 0, 3, 0)", CAST);
        faulty("plan(1, 1, 0, 3, 0)", CAST);
        faulty("plan(3, 2, 0, 3, 0)", NULL);
        faulty("plan(1, 2, -1, 3, 0)", INDEX);
        faulty("plan(1, 2, 3, 3, 0)", INDEX);
        faulty("plan(1, 2, 0, 6, 0)", INDEX);
        faulty("plan(1, 2, " + BIG + ", 3, 0)", INDEX);
        faulty("plan(1, 2, " + SMALL + ", 3, 0)", INDEX);
        faulty(withoutPiece(), "plan(3, 2, 0, 3, 0)", NULL);
        faulty(withoutPiece(), "plan(1, 2, 0, 6, 0)", INDEX);
    }

    private void right() {
        terms("==== 3 RIGHT: how likely all goes right at night: SURE of all PLACES, of all JOINS, in tenths, multiplied.");
        HourRehearsal x = Desk.with("c60;p7110");
        due("one place, upper", Desk.right(x, 0), 7);
        due("one place, lower", Desk.right(x, 1), 10);
        x = Desk.with("c60;p9110;p9110;p9110;p9110;p9110;p9110");
        due("six of 9, five of 5, upper", Desk.right(x, 0), 531441);
        due("six of 9, five of 5, lower", Desk.right(x, 1), 32000000);
        due("six of 9, five of 9, upper", Desk.right(x, 0, 20, 20), 31381059609L);
        due("six of 9, five of 9, lower", Desk.right(x, 1, 20, 20), 100000000000L);
        due("all of 10, upper", Desk.right(x, 0, 0, 1, 2, 3, 4, 5, 20, 20, 20), 1);
        due("all of 10, lower", Desk.right(x, 1, 0, 1, 2, 3, 4, 5, 20, 20, 20), 1);
        x.sure(5, 0);
        due("one of 0, upper", Desk.right(x, 0), 0);
        due("one of 0, lower", Desk.right(x, 1), 1);
        promise(7, "RIGHT by such a PLAN (which 0 the upper, 1 the lower number).");
        x = prepared();
        due(x, "right(1, 2, 0, 3, 0)", 343);
        due(x, "right(1, 2, 0, 3, 1)", 5000);
        due(x, "right(1, 2, 0, 0, 0)", 21);
        due(x, "right(1, 2, 0, 0, 1)", 2000);
        due(x, "fault()", 0);
    }

    private void rightLost() {
        promise(7, "LOST: as plan() (which in the place of what), a FIRST WRONG, too.");
        allRefused(LOST, "right(-1, 2, 0, 3, 0)", "right(4, 2, 0, 3, 0)", "right(1, -1, 0, 3, 0)",
            "right(1, 3, 0, 3, 0)", "right(1, 2, 0, -1, 0)", "right(1, 2, 0, 21, 0)", "right(1, 2, 0, 3, -1)",
            "right(1, 2, 0, 3, 2)", "right(3, 0, 0, 3, 2)", "right(1, 2, 4, 1, 0)", "right(1, 2, 0, 4, 0)",
            "right(1, 2, 0, 4, 1)", "right(1, 2, 3, 2, 0)");
        refused(withoutPiece(), "right(1, 2, 0, 3, 0)", LOST);
        faulty("right(1, 0, 0, 3, 0)", CAST);
        faulty("right(3, 0, 0, 3, 0)", NULL);
        faulty("right(1, 2, -1, 3, 0)", INDEX);
        faulty("right(1, 2, 3, 3, 1)", INDEX);
        faulty(withoutPiece(), "right(1, 2, 0, 6, 0)", INDEX);
    }

    private void worse() {
        terms("WORSE: the first STEP of a PLAN by which a PLACE became less SURE.");
        HourRehearsal x = Desk.with("c60;h0110;p0120");
        due("from 1 to 0, though 0 stays then", Desk.worse(x, 0, 0, 0), 1);
        due("the first of two", Desk.worse(x, 0, 1, 1, 1, 0), 3);
        due("none at the limit", Desk.worse(x, 0, 1, 1), NONE);
        due("none by a break or a run", Desk.worse(x, 20, 21, 0, 20, 21), NONE);
        x = Desk.with("c60;p0990;p0490;p0110");
        due("0 does not become less", Desk.worse(x, 10, 10, 1, 2, 2, 2), NONE);
        promise(8, "WORSE; NONE: none; -100 less the FIRST WRONG.");
        x = prepared();
        due("the third", Desk.worse(x, 0, 0, 0), 2);
        due("the soonest that there can be", Desk.worse(Desk.with("c60;p5110"), 0, 0), 1);
        due("the last of twenty", Desk.worse(Desk.with(NINE_NINE_ONE), TWENTY), 19);
        due("none", Desk.worse(x, 0, 0), NONE);
        due("of no step", Desk.worse(x), NONE);
        due("a first wrong behind it", Desk.worse(x, 0, 0, 0, 1), -103);
        due("a first wrong ahead of it", Desk.worse(x, 1, 0, 0, 0), -100);
        promise(8, "As plan(), without what.");
        allRefused(UNKNOWN, "worse(-1, 2, 0, 3)", "worse(4, 2, 0, 3)", "worse(1, 2, 4, 1)", "worse(1, 2, 3, 2)");
        allRefused(OUTSIDE, "worse(1, -1, 0, 3)", "worse(1, 3, 0, 3)", "worse(1, 2, 0, -1)", "worse(1, 2, 0, 21)");
        refused(withoutPiece(), "worse(1, 2, 0, 3)", STATE);
        faulty("worse(1, 0, 0, 3)", CAST);
        faulty("worse(3, 2, 0, 3)", NULL);
        faulty("worse(1, 2, 3, 3)", INDEX);
        faulty(withoutPiece(), "worse(3, 2, 0, 3)", NULL);
    }

    private void worth() {
        terms("WORTH of a STEP of a PLAN: RIGHT less RIGHT of the PLAN without it");
        HourRehearsal x = Desk.with("c60;p5110");
        due("the one step", Desk.worth(x, 0, 0), 3);
        due("a step that makes it worse", Desk.worth(x, 1, 0, 0), -1);
        due("a break", Desk.worth(x, 0, 21, 0), 0);
        terms("(LOST, if that can't be),");
        x = Desk.with("c60;p5111");
        due("without the break it is too soon", Desk.worth(x, 0, 21, 0), LOST);
        due("without the place", Desk.worth(x, 1, 21, 0), 3);
        terms("in parts of 10 to as many as there are PLACES and JOINS.");
        x = Desk.with("c60;p9110;p9110;p9110;p9110;p9110;p9110");
        due("10 to 11", Desk.worth(x, 2, 20, 20, 20), 531441L * (100000 - 59049));
        due("10 to 3", Desk.worth(Desk.with("c60;p9110;p9110"), 0, 20), 81 * (7 - 5));
        promise(9, "WORTH of STEP k of such a PLAN.");
        x = prepared();
        due(x, "worth(1, 2, 0, 3, 0)", (10 - 9) * 7 * 2 * 49);
        due(x, "worth(1, 2, 0, 3, 1)", (10 - 6) * 7 * 2 * 49);
        due(x, "worth(1, 2, 0, 3, 2)", 10 * 7 * 2 * (49 - 25));
        due(x, "worth(1, 2, 1, 1, 0)", (9 - 3) * 7 * 2 * 25);
        due(x, "fault()", 0);
        due("the last of twenty", Desk.worth(Desk.with(NINE_NINE_ONE), 19, TWENTY), 10 * 10 * (7 - 8) * 25);
        due("one behind it", Desk.worth(Desk.with(NINE_NINE_ONE), 20, TWENTY), LOST);
    }

    private void worthLost() {
        promise(9, "LOST: OUTSIDE: k is not 0 .. n - 1, as plan() (k in the place of what), a FIRST WRONG, one of the"
            + " PLAN without it, too.");
        allRefused(LOST, "worth(1, 2, 0, 3, -1)", "worth(1, 2, 0, 3, 3)", "worth(1, 2, 0, 0, 0)",
            "worth(1, 2, 0, 0, -1)", "worth(3, 2, 0, 3, 3)", "worth(1, 0, 0, 3, 3)", "worth(1, 2, 3, 3, 3)",
            "worth(-1, 2, 0, 3, 0)", "worth(4, 2, 0, 3, 0)", "worth(1, -1, 0, 3, 0)", "worth(1, 3, 0, 3, 0)",
            "worth(1, 2, 0, -1, 0)", "worth(1, 2, 0, 21, 0)", "worth(1, 2, 3, 2, 0)", "worth(1, 2, 0, 4, 0)",
            "worth(1, 2, 0, 4, 3)", "worth(1, 2, 0, 3, " + BIG + ")", "worth(1, 2, 0, 3, " + SMALL + ")");
        refused(withoutPiece(), "worth(1, 2, 0, 3, 0)", LOST);
        faulty("worth(1, 0, 0, 3, 0)", CAST);
        faulty("worth(3, 2, 0, 3, 0)", NULL);
        faulty("worth(1, 2, 3, 3, 0)", INDEX);
        faulty(withoutPiece(), "worth(1, 2, 0, 6, 0)", INDEX);
        HourRehearsal x = Desk.with("c60;p5990;p5191");
        Desk.steps(x, 0, 1, 10, 1);
        due("a first wrong", x.worth(1, 2, 0, 2, 1), LOST);
        due("one without it", x.worth(1, 2, 2, 2, 0), LOST);
        due("none without it", x.worth(1, 2, 2, 2, 1), (8 - 5) * 10 * 5);
    }
}

/** BEST, SOONEST and LUCK of part 3 of the terms, promises 10 to 13. */
final class BestPart extends Part {
    BestPart(Checks checks, Sentences sentences) {
        super(checks, sentences);
    }

    @Override
    void show() {
        bestOfAll();
        bestOfSeveral();
        soonestOfFive();
        soonestAsIf();
        soonestSoSure();
        luckOfAll();
        best();
        top();
        soonest();
        luck();
    }

    private void bestIs(HourRehearsal x, int n, int... steps) {
        for (int q = 0; q < 3; q++) {
            due("best(" + n + ", " + q + ")", x.best(n, q), q < steps.length ? steps[q] : NONE);
        }
    }

    private void bestOfAll() {
        terms("BEST of n: of all PLANS of 0 to n STEPS that can be, the one that is the most RIGHT:");
        HourRehearsal x = Desk.with("c60;h0190");
        bestIs(x, 0);
        bestIs(x, 1, 10);
        bestIs(x, 2, 10, 10);
        bestIs(x, 3, 10, 10, 10);
        x.minutes(5);
        bestIs(x, 3, 0, 10, 10);
        x = Desk.with("c05;h0590");
        bestIs(x, 3, 0);
        x = Desk.with("c05;h0990");
        bestIs(x, 3);
        x = Desk.with("c60;h0911");
        bestIs(x, 1);
        bestIs(x, 2, 21, 10);
        x = Desk.with("c60;p5110;p5110;p5110;p5110;p5110;p5110");
        bestIs(x, 3, 10, 20, 20);
    }

    private void bestOfSeveral() {
        terms("of several the one of the fewest STEPS, then the first as a row.");
        HourRehearsal x = Desk.with("c60;p4190");
        bestIs(x, 3, 10);
        x.sure(0, 7);
        bestIs(x, 3, 0);
        x.sure(0, 10);
        bestIs(x, 3);
        x = Desk.with("c60;p0190;p0190");
        bestIs(x, 1);
        x = Desk.with("c60;p4190;p4190");
        bestIs(x, 2, 10, 11);
        x = Desk.with("c05;p5190;p9190;p3490");
        x.sure(1, 10);
        bestIs(x, 1, 2);
    }

    private void soonestOfFive() {
        terms("SOONEST of a PLACE and v: the least MINUTES that a PLAN TAKES of 0 to 5 STEPS, each that PLACE, quick or"
            + " slow, or a BREAK,");
        HourRehearsal x = Desk.with("c60;h0990;h0190");
        int[] due = {0, 9, 18, 27, 36, 45, 54, 78, 87, NONE, NONE};
        for (int v = 0; v <= 10; v++) {
            due("soonest(0, " + v + ")", x.soonest(0, v), due[v]);
            due("soonest(1, " + v + ")", x.soonest(1, v), v);
        }
        soonestOfTheLastPlace();
    }

    private void soonestOfTheLastPlace() {
        HourRehearsal x = Desk.with("c60;p0990;p0990;p0990;p0990;p0990;p2310");
        due(x, "soonest(5, 8)", 6);
        due(x, "soonest(5, 9)", NONE);
    }

    private void soonestAsIf() {
        terms("as if its FROM were 0, there were MINUTES enough,");
        HourRehearsal x = Desk.with("c05;h0995");
        due(x, "soonest(0, 1)", 9);
        due(x, "soonest(0, 8)", 87);
        due(x, "ofPlace(0, 4)", 5);
        due(x, "many(2)", 5);
    }

    private void soonestSoSure() {
        terms("by which it is v SURE or more at the end.");
        HourRehearsal x = Desk.with("c60;p2310;p2330");
        int[] lipsOnce = {0, 0, 0, 3, 3, 3, 6, 6, 6, NONE, NONE};
        int[] lipsThrice = {0, 0, 0, 3, 3, 3, 6, 6, 6, 9, 9};
        for (int v = 0; v <= 10; v++) {
            due("soonest(0, " + v + ")", x.soonest(0, v), lipsOnce[v]);
            due("soonest(1, " + v + ")", x.soonest(1, v), lipsThrice[v]);
        }
    }

    private void luckOfAll() {
        terms("LUCK of a PLACE: if it was 0, 1, .. 10 tenths SURE, all alike, and went right a times, wrong b times: how"
            + " SURE it is in the mean then.");
        HourRehearsal x = new HourRehearsal();
        long[][] due = {{0, 0, 1, 2}, {1, 0, 7, 10}, {0, 1, 3, 10}, {1, 1, 1, 2}, {2, 0, 11, 14}, {0, 2, 3, 14},
            {6, 0, 65747, 71942}, {0, 6, 6195, 71942}, {6, 6, 1, 2}};
        for (long[] row : due) {
            due("luck(" + row[0] + ", " + row[1] + ", 0)", x.luck((int) row[0], (int) row[1], 0), row[2]);
            due("luck(" + row[0] + ", " + row[1] + ", 1)", x.luck((int) row[0], (int) row[1], 1), row[3]);
        }
    }

    private void best() {
        promise(10, "BEST of n: its q-th STEP (0 on); NONE: there are fewer.");
        HourRehearsal x = Desk.with("c60;h0190");
        due(x, "best(0, 0)", NONE);
        due(x, "best(1, 0)", 10);
        due(x, "best(1, 1)", NONE);
        due(x, "best(2, 1)", 10);
        due(x, "best(2, 2)", NONE);
        due(x, "best(3, 2)", 10);
        due(x, "best(0, 2)", NONE);
        promise(10, "OUTSIDE: n (0 .. 3), q (0 .. 2);");
        refusedFor("best(#, 0)", OUTSIDE, -1, 4, BIG, SMALL);
        refusedFor("best(3, #)", OUTSIDE, -1, 3, BIG, SMALL);
        promise(10, "STATE: there is no PIECE.");
        refused(withoutPiece(), "best(0, 0)", STATE);
        refused(withoutPiece(), "best(3, 2)", STATE);
    }

    private void top() {
        promise(11, "How RIGHT the BEST of n is (which 0 the upper, 1 the lower number).");
        HourRehearsal x = Desk.with("c60;h1190");
        int[][] due = {{1, 10}, {3, 10}, {1, 2}, {7, 10}};
        for (int n = 0; n <= 3; n++) {
            due("top(" + n + ", 0)", x.top(n, 0), due[n][0]);
            due("top(" + n + ", 1)", x.top(n, 1), due[n][1]);
        }
        x = Desk.with("c60;p9110;p9110;p9110;p9110;p9110;p9110");
        due("three runs, upper", x.top(3, 0), 531441);
        due("three runs, lower", x.top(3, 1), 1000000);
        due("two runs, upper", x.top(2, 0), 31381059609L);
        due("two runs, lower", x.top(2, 1), 100000000000L);
        promise(11, "LOST: OUTSIDE: n (0 .. 3), which;");
        refusedFor("top(#, 0)", LOST, -1, 4, BIG, SMALL);
        refusedFor("top(3, #)", LOST, -1, 2, BIG, SMALL);
        promise(11, "STATE: there is no PIECE.");
        refused(withoutPiece(), "top(0, 0)", LOST);
        refused(withoutPiece(), "top(3, 1)", LOST);
    }

    private void soonest() {
        promise(12, "SOONEST; NONE: by none.");
        HourRehearsal x = prepared();
        due(x, "soonest(2, 0)", 0);
        due(x, "soonest(2, 2)", 0);
        due(x, "soonest(2, 3)", 2);
        due(x, "soonest(2, 4)", 4);
        due(x, "soonest(2, 5)", NONE);
        due(x, "soonest(2, 10)", NONE);
        promise(12, "UNKNOWN;");
        refusedFor("soonest(#, 5)", UNKNOWN, -1, 3, BIG, SMALL);
        refused(withoutPiece(), "soonest(0, 0)", UNKNOWN);
        promise(12, "OUTSIDE: v (0 .. 10).");
        refusedFor("soonest(0, #)", OUTSIDE, -1, 11, BIG, SMALL);
    }

    private void luck() {
        promise(13, "LUCK (which 0 the upper, 1 the lower number).");
        HourRehearsal x = new HourRehearsal();
        due(x, "luck(3, 2, 0)", 577);
        due(x, "luck(3, 2, 1)", 1010);
        promise(13, "LOST: OUTSIDE: a, b (0 .. 6), which.");
        refusedFor("luck(#, 0, 0)", LOST, -1, 7, BIG, SMALL);
        refusedFor("luck(0, #, 0)", LOST, -1, 7, BIG, SMALL);
        refusedFor("luck(0, 0, #)", LOST, -1, 2, BIG, SMALL);
    }
}

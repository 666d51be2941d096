/** Part 4 of the terms, promises 14 to 17: what was seen. */
final class SeenPart extends Part {
    SeenPart(Checks checks, Sentences sentences) {
        super(checks, sentences);
    }

    @Override
    void show() {
        eightReadings();
        soSureAtTheEnd();
        plansThatFit();
        firstOfPlans();
        kindsThatFit();
        reading();
        back();
        plans();
        plansRefusals();
        kinds();
        kindsRefusals();
    }

    private void eightReadings() {
        terms("==== 4 READINGS, 8 at most, numbered by how many there are:");
        HourRehearsal x = prepared();
        for (int r = 2; r < 8; r++) {
            due("number " + r, x.reading(2, 2), r);
            due("how many", x.many(3), r + 1);
        }
        refused(x, "reading(2, 2)", FULL);
        due(x, "back(1)", 7);
        due(x, "reading(2, 2)", 7);
        due(x, "reading(2, 2)", FULL);
    }

    private void soSureAtTheEnd() {
        terms("at the end a PLACE was v SURE.");
        HourRehearsal x = Desk.with("c60;p3110;p5190");
        x.reading(0, 5);
        due("6, then 5", Desk.kinds(x, 1, 0, 0), 7);
        due("6", Desk.kinds(x, 1, 0), 0);
        x.back(1);
        x.reading(1, 5);
        due("another place", Desk.kinds(x, 0, 0, 0), 7);
        x.reading(1, 5);
        due("the same twice", Desk.kinds(x, 0, 0, 0), 7);
        x.reading(1, 6);
        due("it can't be 5 and 6", Desk.kinds(x, 0, 0, 0), 0);
    }

    private void plansThatFit() {
        terms("PLANS of n: PLANS of 0 to n STEPS that can be, by which all READINGS are so: how many;");
        HourRehearsal x = Desk.with("c60;p0190");
        int all = 1;
        for (int n = 0; n <= 3; n++) {
            due("all of " + n, x.plans(n, -1), all);
            all = 4 * all + 1;
        }
        x.minutes(5);
        due("no break can be", x.plans(1, -1), 4);
        due("5 minutes of three", x.plans(3, -1), 1 + 3 + 9 + 26);
        x = Desk.with("c60;p0190");
        x.reading(0, 0);
        due("0 by none", x.plans(0, -1), 1);
        due("0 by one", x.plans(1, -1), 3);
        x.back(1);
        x.reading(0, 3);
        due("3 by none", x.plans(0, -1), 0);
        due("3 by one", x.plans(1, -1), 1);
        due("3 by two", x.plans(2, -1), 5);
        x.reading(0, 6);
        due("3 and 6", x.plans(3, -1), 0);
        plansOfEachStep();
    }

    private void plansOfEachStep() {
        HourRehearsal x = Desk.with("c60;p0190;p0190;p0190;p0190;p0190;p0190");
        for (int k = 0; k < 6; k++) {
            for (int slow = 0; slow <= 1; slow++) {
                x.reading(k, 3 + 3 * slow);
                due("one way to it", x.plans(1, -1), 1);
                due("the way", x.plans(1, 0), k + 10 * slow);
                x.back(1);
            }
        }
    }

    private void firstIs(HourRehearsal x, int n, int... steps) {
        for (int q = 0; q < 3; q++) {
            due("plans(" + n + ", " + q + ")", x.plans(n, q), q < steps.length ? steps[q] : NONE);
        }
    }

    private void firstOfPlans() {
        terms("the first one (of the fewest STEPS, then as a row).");
        HourRehearsal x = Desk.with("c60;p0190;p0190;p4190");
        firstIs(x, 3);
        x.reading(0, 6);
        firstIs(x, 0);
        firstIs(x, 1, 10);
        firstIs(x, 3, 10);
        x.reading(1, 3);
        firstIs(x, 1);
        firstIs(x, 2, 1, 10);
        firstIs(x, 3, 1, 10);
        x.reading(2, 10);
        firstIs(x, 2);
        firstIs(x, 3, 1, 10, 12);
        x.back(3);
        x.reading(2, 10);
        firstIs(x, 3, 12);
    }

    private void kindsThatFit() {
        terms("KINDS of a PLACE by a PLAN that can be: those (0 .. 2), in place of its own, by which all READINGS are so"
            + " at its end, as a set.");
        String[] pieces = {"c60;p0190;p5190", "c60;k0190;p5190", "c60;h0190;p5190"};
        for (int own = 0; own < 3; own++) {
            HourRehearsal x = Desk.with(pieces[own]);
            due("no readings", Desk.kinds(x, 0, 0), 7);
            x.reading(0, 2);
            due("knotty, quick", Desk.kinds(x, 0, 0), 2);
            due("high, slow", Desk.kinds(x, 0, 10), 4);
            due("none, of no step", Desk.kinds(x, 0), 0);
            due("the other place", Desk.kinds(x, 1, 0), own == 1 ? 7 : 0);
            due("its own stays", x.ofPlace(0, 0), own);
            x.reading(1, 8);
            due("both", Desk.kinds(x, 0, 0, 1), 2);
            due("not the other", Desk.kinds(x, 0, 0), 0);
        }
        HourRehearsal x = Desk.with("c60;p6190");
        x.reading(0, 10);
        due("ten at most", Desk.kinds(x, 0, 10), 3);
        due("one after another", Desk.kinds(x, 0, 10, 0, 0), 7);
    }

    private void reading() {
        promise(14, "A READING: its number.");
        HourRehearsal x = Desk.with("c60;p0190;p0190");
        due(x, "reading(0, 0)", 0);
        due(x, "reading(1, 10)", 1);
        due(x, "many(3)", 2);
        promise(14, "UNKNOWN;");
        refusedFor("reading(#, 5)", UNKNOWN, -1, 3, BIG, SMALL);
        refused(withoutPiece(), "reading(0, 5)", UNKNOWN);
        promise(14, "OUTSIDE: v (0 .. 10);");
        refusedFor("reading(0, #)", OUTSIDE, -1, 11, BIG, SMALL);
        promise(14, "FULL.");
        x = prepared();
        for (int r = 2; r < 8; r++) {
            due("number", x.reading(0, 6), r);
        }
        refused(x, "reading(0, 6)", FULL);
        due("still full", x.reading(1, 7), FULL);
        due("eight", x.many(3), 8);
    }

    private void back() {
        promise(15, "The last k READINGS (0 .. as many as there are) are taken back: how many are left.");
        HourRehearsal x = Desk.with("c60;p0190;p0190");
        x.reading(0, 3);
        x.reading(0, 4);
        x.reading(1, 5);
        due("none fits", x.plans(1, -1), 0);
        due(x, "back(0)", 3);
        due(x, "back(2)", 1);
        due("the first is left", x.plans(1, 0), 0);
        due("the first is left", x.plans(1, -1), 1);
        due(x, "back(1)", 0);
        due(x, "back(0)", 0);
        due("nothing is left", x.plans(0, -1), 1);
        for (int r = 0; r < 8; r++) {
            due("number", x.reading(0, 0), r);
        }
        due(x, "back(8)", 0);
        due("without a piece", new HourRehearsal().back(0), 0);
        promise(15, "OUTSIDE.");
        refusedFor("back(#)", OUTSIDE, -1, 3, 9, BIG, SMALL);
        refused(withoutPiece(), "back(1)", OUTSIDE);
        refused(withoutPiece(), "back(-1)", OUTSIDE);
    }

    private void plans() {
        promise(16, "PLANS of n: how many (q -1), the q-th STEP of the first one (0 on); NONE: there are none, fewer.");
        HourRehearsal x = Desk.with("c60;h0190");
        due("the one of none", x.plans(0, -1), 1);
        due("it has no step", x.plans(0, 0), NONE);
        x.reading(0, 6);
        due("none", x.plans(2, -1), 0);
        firstIs(x, 2);
        due("one", x.plans(3, -1), 1);
        firstIs(x, 3, 10, 10, 10);
        x.back(1);
        x.reading(0, 3);
        due("two, and those with a third step", x.plans(3, -1), 2 + 13);
        firstIs(x, 3, 0, 10);
        x = Desk.with("c60;p0110;p0110;p0110;p0110;p0110;p0110");
        due("the most that there can be", x.plans(3, -1), 1 + 14 + 14 * 14 + 14 * 14 * 14);
    }

    private void plansRefusals() {
        promise(16, "OUTSIDE: n (0 .. 3), q (-1 .. 2);");
        refusedFor("plans(#, 0)", OUTSIDE, -1, 4, BIG, SMALL);
        refusedFor("plans(0, #)", OUTSIDE, -2, 3, BIG, SMALL);
        promise(16, "STATE: there is no PIECE.");
        refused(withoutPiece(), "plans(0, -1)", STATE);
        refused(withoutPiece(), "plans(3, 2)", STATE);
    }

    private void kinds() {
        promise(17, "KINDS of a PLACE by such a PLAN, as a set; -100 less the FIRST WRONG.");
        HourRehearsal x = prepared();
        due(x, "kinds(0, 1, 2, 0, 1)", 1);
        due(x, "kinds(0, 1, 2, 0, 3)", 4);
        due(x, "kinds(1, 1, 2, 0, 1)", 7);
        due(x, "kinds(2, 1, 2, 0, 1)", 7);
        due(x, "kinds(0, 1, 2, 0, 4)", -103);
        due(x, "kinds(0, 1, 2, 3, 1)", -100);
        due(x, "fault()", 0);
        int[] twentyQuick = new int[20];
        due("the last of twenty", Desk.kinds(Desk.with("c19;p5190"), 0, twentyQuick), -119);
    }

    private void kindsRefusals() {
        promise(17, "UNKNOWN: PLACE;");
        refusedFor("kinds(#, 1, 2, 0, 1)", UNKNOWN, -1, 3, BIG, SMALL);
        refusedFor("kinds(#, 3, 2, 0, 1)", UNKNOWN, -1, 3, BIG, SMALL);
        refusedFor("kinds(#, 1, 3, 0, 21)", UNKNOWN, -1, 3, BIG, SMALL);
        refused(withoutPiece(), "kinds(0, 1, 2, 0, 1)", UNKNOWN);
        refused(withoutPiece(), "kinds(0, 3, 2, 0, 1)", UNKNOWN);
        promise(17, "else as worse().");
        allRefused(UNKNOWN, "kinds(0, -1, 2, 0, 1)", "kinds(0, 4, 2, 0, 1)", "kinds(0, 1, 2, 4, 1)",
            "kinds(0, 1, 2, 3, 2)");
        allRefused(OUTSIDE, "kinds(0, 1, -1, 0, 1)", "kinds(0, 1, 3, 0, 1)", "kinds(0, 1, 2, 0, -1)",
            "kinds(0, 1, 2, 0, 21)");
        faulty("kinds(0, 1, 0, 0, 1)", CAST);
        faulty("kinds(0, 3, 2, 0, 1)", NULL);
        faulty("kinds(0, 1, 2, -1, 1)", INDEX);
        faulty("kinds(0, 1, 2, 5, 1)", INDEX);
        faulty("kinds(0, 1, 2, 0, 6)", INDEX);
    }
}

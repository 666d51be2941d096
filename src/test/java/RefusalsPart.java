/** What the terms say of all calls: refusals, faults, sets, shares; and how long an object is used. */
final class RefusalsPart extends Part {
    RefusalsPart(Checks checks, Sentences sentences) {
        super(checks, sentences);
    }

    @Override
    void show() {
        manyCalls();
        refusalsInOrder();
        refusalsChangeNothing();
        faultNull();
        faultCast();
        faultIndex();
        faultSize();
        faultsInOrder();
        faultsAnswer();
        faultTellsIt();
        none();
        sets();
        shares();
    }

    private void manyCalls() {
        preface("An object is used for at most 512 calls after it has been made;");
        String six = "c60;p5110;p5110;p5110;p5110;p5110;p5110";
        HourRehearsal x = Desk.with(six);
        int calls = six.length() + 2;
        for (int q = 0; calls < 511; calls++, q++) {
            due("a call that looks through all plans", x.best(3, q % 3), q % 3 == 0 ? 10 : 20);
        }
        due("call 512", x.plans(3, -1), 1 + 14 + 14 * 14 + 14 * 14 * 14);
        x = Desk.with("c60;h5110");
        int trace = 0;
        for (calls = 11; calls < 511; calls++) {
            due("told", x.tell(0), 102);
            trace = (((trace * 31 + 3) * 31 + 2) * 31 + 1) * 31 + 1;
        }
        due("call 512", x.trace(), trace);
    }

    private void refusalsInOrder() {
        terms("REFUSALS, in the order in which a call's line tells them: UNKNOWN (there is no such PLACE, STEP, SHEET,"
            + " place of a row), OUTSIDE (another number is not as told), STATE (as told), FULL;");
        allRefused(UNKNOWN, "piece(4, 3, 0, 21)", "ofPlace(3, 6)", "sure(3, 11)", "plan(4, 3, 0, 21, 2)",
            "worse(4, 3, 0, 21)", "soonest(3, 11)", "reading(3, 11)", "kinds(3, 1, 3, 0, 21)", "kinds(0, 4, 3, 0, 21)",
            "sheet(4, 3, 61)", "sheet(4, 0, -1)", "put(4, 60, 0)", "copy(4, 60, 3, 60, -1)", "copy(3, 60, 4, 60, -1)",
            "as(3, 3)");
        String[] outsideFirst = {"minutes(4)", "plan(3, 3, 0, 0, 0)", "plan(3, 0, 0, 21, 0)", "plan(3, 0, 0, 0, 2)",
            "worse(3, 0, 0, 21)", "best(4, 0)", "best(0, 3)", "plans(4, 0)", "plans(0, 3)", "sheet(0, 3, -1)"};
        for (String call : outsideFirst) {
            refused(withoutPiece(), call, OUTSIDE);
        }
        refused(withoutPiece(), "plan(1, 2, 4, 1, 0)", STATE);
        refused(withoutPiece(), "worse(1, 2, 4, 1)", STATE);
        refused(full(), "reading(3, 10)", UNKNOWN);
        refused(full(), "reading(0, 11)", OUTSIDE);
        refused(full(), "reading(0, 10)", FULL);
    }

    private static HourRehearsal full() {
        HourRehearsal x = prepared();
        for (int r = 2; r < 8; r++) {
            x.reading(0, 6);
        }
        return x;
    }

    private void refusalsChangeNothing() {
        terms("they change nothing (but fault(), of a call that names FAULTS).");
        HourRehearsal x = prepared();
        x.put(3, 0, 0);
        String[] namingNone = {"ofPlace(-1, 0)", "sure(-1, 0)", "minutes(61)", "best(-1, 0)", "top(-1, 0)",
            "soonest(-1, 0)", "luck(-1, 0, 0)", "reading(-1, 0)", "back(-1)", "plans(-1, 0)", "lose(-1)", "tell(-1)",
            "hum(-1)", "many(-1)"};
        for (String call : namingNone) {
            Calls.answer(x, call);
            due("fault() behind " + call, x.fault(), NULL);
            refused(call, Calls.answer(x, call));
        }
        String[] namingSome = {"piece(-1, 0, 0, 0)", "plan(-1, 0, 0, 0, 0)", "right(-1, 0, 0, 0, 0)",
            "worse(-1, 0, 0, 0)", "worth(-1, 0, 0, 1, 0)", "kinds(-1, 0, 0, 0, 0)", "sheet(-1, 0, 0)", "put(-1, 0, 0)",
            "cell(-1, 0, 0)", "copy(-1, 0, 0, 0, 0)", "as(-1, 0)"};
        for (String call : namingSome) {
            x.put(3, 0, 0);
            due("fault() ahead of " + call, x.fault(), NULL);
            Calls.answer(x, call);
            due("fault() behind " + call, x.fault(), 0);
            refused(call, Calls.answer(x, call));
        }
    }

    private void faultNull() {
        terms("FAULTS are the machine's: 1 NULL (there is nothing),");
        allFaulty(NULL, "piece(3, 0, 0, 0)", "plan(3, 0, 0, 0, 0)", "right(3, 0, 0, 0, 0)", "worse(3, 0, 0, 0)",
            "worth(3, 0, 0, 1, 0)", "kinds(0, 3, 0, 0, 0)", "put(3, 0, 0)", "cell(3, 0, 0)", "copy(3, 0, 0, 0, 0)",
            "copy(0, 0, 3, 0, 0)", "copy(3, 0, 3, 0, 0)");
        HourRehearsal x = prepared();
        x.sheet(3, 0, 0);
        due(x, "piece(3, 0, 0, 0)", -100);
        due("a row of none is something", x.plan(3, 0, 0, 0, 0), 0);
    }

    private void faultCast() {
        terms("2 CAST (it is of another lane, kind),");
        for (int sheet = 0; sheet < 3; sheet++) {
            int own = sheet == 0 ? 0 : 3 - sheet;
            for (int lane = 0; lane < 3; lane++) {
                if (lane != own) {
                    faulty("piece(" + sheet + ", " + lane + ", 0, 0)", CAST);
                    faulty("plan(" + sheet + ", " + lane + ", 0, 0, 0)", CAST);
                    faulty("cell(" + sheet + ", 0, " + lane + ")", CAST);
                }
            }
        }
        faulty("copy(0, 0, 1, 0, 0)", CAST);
        faulty("copy(1, 0, 2, 0, 0)", CAST);
        faulty("as(0, 1)", CAST);
        faulty("as(1, 2)", CAST);
    }

    private void faultIndex() {
        terms("3 INDEX (of cells from i on also where i is not 0 .. how many there are, if none of them is taken, too),");
        allFaulty(INDEX, "piece(0, 0, -1, 0)", "piece(0, 0, 22, 0)", "plan(1, 2, -1, 0, 0)", "plan(1, 2, 6, 0, 0)",
            "right(1, 2, -1, 0, 0)", "right(1, 2, 6, 0, 0)", "worse(1, 2, -1, 0)", "worse(1, 2, 6, 0)",
            "kinds(0, 1, 2, -1, 0)", "kinds(0, 1, 2, 6, 0)", "copy(0, -1, 0, 0, 0)", "copy(0, 22, 0, 0, 0)",
            "copy(0, 0, 0, -1, 0)", "copy(0, 0, 0, 22, 0)");
        HourRehearsal x = prepared();
        x.back(2);
        due(x, "piece(0, 0, 21, 0)", -100);
        due(x, "plan(1, 2, 5, 0, 0)", 0);
        due(x, "right(1, 2, 5, 0, 1)", 2000);
        due(x, "worse(1, 2, 5, 0)", NONE);
        due(x, "kinds(0, 1, 2, 5, 0)", 7);
        due(x, "copy(0, 21, 0, 21, 0)", 0);
        due(x, "fault()", 0);
        x.sheet(3, 2, 0);
        due(x, "plan(3, 2, 0, 0, 0)", 0);
        faulty(x, "plan(3, 2, 1, 0, 0)", INDEX);
    }

    private void faultSize() {
        terms("4 SIZE (a length below 0).");
        faulty("piece(0, 0, 0, -1)", SIZE);
        faulty("piece(0, 0, 0, " + SMALL + ")", SIZE);
        faulty("sheet(0, 0, -1)", SIZE);
        faulty("sheet(3, 2, " + SMALL + ")", SIZE);
        HourRehearsal x = prepared();
        due(x, "piece(0, 0, 0, 0)", -100);
        due(x, "sheet(0, 0, 0)", 1);
        due(x, "fault()", 0);
    }

    private void faultsInOrder() {
        terms("Of a call the first that is come to, in the order told;");
        faulty("piece(0, 1, -1, -1)", CAST);
        faulty("piece(3, 1, -1, -1)", NULL);
        faulty("piece(0, 0, -1, -1)", SIZE);
        faulty("piece(0, 0, -1, 1)", INDEX);
        faulty("plan(1, 1, -1, 1, 0)", CAST);
        faulty("plan(3, 1, -1, 1, 0)", NULL);
        faulty("right(1, 1, -1, 1, 0)", CAST);
        faulty("worse(1, 1, -1, 1)", CAST);
        faulty("worth(1, 1, -1, 1, 0)", CAST);
        faulty("kinds(0, 1, 1, -1, 1)", CAST);
        faulty("put(3, -1, 0)", NULL);
        faulty("cell(1, -1, 1)", CAST);
        faulty("cell(3, -1, 1)", NULL);
        faulty("copy(0, -1, 3, 0, 0)", NULL);
        faulty("copy(0, -1, 1, 0, 0)", CAST);
        refused("cell(1, -1, 3)", LOST);
    }

    private void faultsAnswer() {
        terms("it answers -10 less it (LOST, where a long is answered, as for refusals) and changes nothing;");
        HourRehearsal x = prepared();
        due(x, "put(3, 0, 0)", -11);
        due(x, "as(0, 1)", -12);
        due(x, "put(1, 5, 0)", -13);
        due(x, "sheet(0, 0, -1)", -14);
        String[] lost = {"right(3, 2, 0, 0, 0)", "worth(3, 2, 0, 1, 0)", "cell(3, 0, 0)"};
        for (String call : lost) {
            due(x, call, LOST);
            faulty(call, NULL);
        }
        allRefused(LOST, "right(4, 2, 0, 0, 0)", "worth(4, 2, 0, 1, 0)", "top(4, 0)", "luck(7, 0, 0)",
            "cell(4, 0, 0)");
    }

    private void faultTellsIt() {
        terms("fault() tells it.");
        HourRehearsal x = prepared();
        x.put(3, 0, 0);
        due(x, "fault()", NULL);
        x.as(0, 1);
        due(x, "fault()", CAST);
        x.put(1, 5, 0);
        due(x, "fault()", INDEX);
        x.sheet(0, 0, -1);
        due(x, "fault()", SIZE);
    }

    private void none() {
        terms("NONE is -9.");
        due("NONE", HourRehearsal.NONE, -9);
        due(prepared(), "plan(1, 2, 0, 0, 1)", -9);
    }

    private void sets() {
        terms("Sets are told as bits (bit k for number k).");
        HourRehearsal x = Desk.with("c60;p0190");
        int[] endings = {3, 2, 1, 4};
        int[] due = {1, 2, 4, 0};
        for (int t = 0; t < endings.length; t++) {
            x.reading(0, endings[t]);
            due("kinds at " + endings[t], Desk.kinds(x, 0, 0), due[t]);
            x.back(1);
        }
        due("kinds without readings", Desk.kinds(x, 0, 0), 7);
    }

    private void shares() {
        terms("Shares are told as upper and lower number (above 0) in least terms.");
        HourRehearsal x = Desk.with("c60;p0190;p4190");
        due("nothing of one, upper", Desk.right(x, 0), 0);
        due("nothing of one, lower", Desk.right(x, 1), 1);
        due("nothing of one, upper", x.top(0, 0), 0);
        due("nothing of one, lower", x.top(0, 1), 1);
        x.sure(0, 10);
        due("200 of 1000, upper", Desk.right(x, 0), 1);
        due("200 of 1000, lower", Desk.right(x, 1), 5);
        due(x, "luck(1, 0, 0)", 7);
        due(x, "luck(1, 0, 1)", 10);
    }
}

/** Part 5 of the terms, promises 18 to 28: sheets, and what places are told by. */
final class SheetsPart extends Part {
    SheetsPart(Checks checks, Sentences sentences) {
        super(checks, sentences);
    }

    @Override
    void show() {
        sheetsAtFirst();
        rows();
        cutToLanes();
        traceWraps();
        telling();
        humming();
        sheet();
        lose();
        put();
        cell();
        copy();
        copyFaults();
        tell();
        hum();
        as();
        trace();
        fault();
        many();
    }

    private void sheetsAtFirst() {
        terms("==== 5 SHEETS 0 .. 3 have nothing (at first),");
        for (int k = 0; k < 4; k++) {
            faulty(new HourRehearsal(), "put(" + k + ", 0, 0)", NULL);
        }
        refused(new HourRehearsal(), "put(-1, 0, 0)", UNKNOWN);
        refused(new HourRehearsal(), "put(4, 0, 0)", UNKNOWN);
    }

    private void rows() {
        terms("or a row of 0 .. 60 numbers (0 at first) of a LANE: 0 bytes, 1 shorts, 2 ints;");
        for (int lane = 0; lane < 3; lane++) {
            HourRehearsal x = new HourRehearsal();
            due("sixty", x.sheet(3, lane, 60), 1);
            for (int i = 0; i < 60; i++) {
                due("cell " + i, x.cell(3, i, lane), 0);
                x.put(3, i, 1 + i);
            }
            due("the last", x.cell(3, 59, lane), 60);
            faulty(x, "cell(3, 60, " + lane + ")", INDEX);
            x.sheet(3, lane, 60);
            due("0 again", x.cell(3, 59, lane), 0);
            due("none", x.sheet(3, lane, 0), 1);
            faulty(x, "cell(3, 0, " + lane + ")", INDEX);
            faulty(x, "put(3, 0, 1)", INDEX);
        }
    }

    private void cutToLanes() {
        terms("what comes to a cell of it is cut to its LANE.");
        int[] numbers = {0, -1, 127, 128, 255, 256, -128, -129, 32767, 32768, 65535, 65536, -32768, -32769, BIG, SMALL};
        for (int lane = 0; lane < 3; lane++) {
            HourRehearsal x = new HourRehearsal();
            x.sheet(0, lane, 1);
            for (int v : numbers) {
                x.put(0, 0, v);
                due(v + " of lane " + lane, x.cell(0, 0, lane), lane == 0 ? (byte) v : lane == 1 ? (short) v : v);
            }
        }
    }

    private void traceWraps() {
        terms("TELLING of PLACES by bodies that leave their number in TRACE (an int that wraps, 0 at first, becomes 31 times"
            + " it and the number) as they begin:");
        HourRehearsal x = Desk.with("c60;p5110");
        due("at first", x.trace(), 0);
        int[] due = {1, 32, 993, 30784, 954305, 29583456, 917087137, -1635069824};
        for (int trace : due) {
            x.tell(0);
            due("once more", x.trace(), trace);
        }
        Desk.take(x, "c60;p5110");
        due("it goes on", x.trace(), -1635069824);
    }

    private void telling() {
        String[] sentences = {"PLACE (1): LONG.", "KNOTTY (2): what PLACE's gives, and 100.",
            "HIGH (3): what KNOTTY's gives, and what PLACE's gives (KNOTTY's left out)."};
        int[] traces = {1, 2 * 31 + 1, ((3 * 31 + 2) * 31 + 1) * 31 + 1};
        for (int kind = 0; kind < 3; kind++) {
            terms(sentences[kind]);
            for (int length = 1; length <= 9; length += 8) {
                HourRehearsal x = Desk.with("c60;" + "pkh".charAt(kind) + "5" + length + "10");
                int[] due = {length, length + 100, length + 100 + length};
                due("told", x.tell(0), due[kind]);
                due("trace", x.trace(), traces[kind]);
            }
        }
    }

    private void humming() {
        terms("HUMMED by a lent body (4): its number; HIGH ones have their own (5): 30.");
        HourRehearsal x = Desk.with("c60;p5110;k5110;h5110;p5110;k5110;h5110");
        int[] due = {0, 1, 30, 3, 4, 30};
        int[] bodies = {4, 4, 5, 4, 4, 5};
        int trace = 0;
        for (int k = 0; k < 6; k++) {
            due("place " + k, x.hum(k), due[k]);
            trace = 31 * trace + bodies[k];
            due("trace", x.trace(), trace);
        }
    }

    private void sheet() {
        promise(18, "A SHEET gets a new row: 1.");
        HourRehearsal x = prepared();
        due(x, "sheet(0, 2, 1)", 1);
        due(x, "cell(0, 0, 2)", 0);
        due(x, "cell(0, 1, 2)", LOST);
        due(x, "sheet(3, 0, 60)", 1);
        due("another sheet stays", x.cell(1, 4, 2), 22);
        due("the piece stays", x.many(0), 3);
        promise(18, "UNKNOWN;");
        refusedFor("sheet(#, 0, 1)", UNKNOWN, -1, 4, BIG, SMALL);
        promise(18, "OUTSIDE: lane, n above 60;");
        refusedFor("sheet(0, #, 1)", OUTSIDE, -1, 3, BIG, SMALL);
        refusedFor("sheet(0, #, -1)", OUTSIDE, -1, 3, BIG, SMALL);
        refused("sheet(0, 0, 61)", OUTSIDE);
        refused("sheet(0, 0, " + BIG + ")", OUTSIDE);
        promise(18, "SIZE.");
        faulty("sheet(0, 0, -1)", SIZE);
        faulty("sheet(0, 2, " + SMALL + ")", SIZE);
        faulty("sheet(3, 1, -1)", SIZE);
    }

    private void lose() {
        promise(19, "A SHEET has nothing: 1; 0: it had nothing.");
        HourRehearsal x = prepared();
        for (int k = 0; k < 3; k++) {
            due("it had a row", x.lose(k), 1);
            due("it had nothing", x.lose(k), 0);
            due("no cell", x.put(k, 0, 0), -10 - NULL);
        }
        due(x, "lose(3)", 0);
        x.sheet(3, 0, 0);
        due("a row of none", x.lose(3), 1);
        x.sheet(3, 2, 1);
        due("a new row", x.cell(3, 0, 2), 0);
        due("it is lost again", x.lose(3), 1);
        faulty(x, "cell(3, 0, 0)", NULL);
        promise(19, "UNKNOWN.");
        refusedFor("lose(#)", UNKNOWN, -1, 4, BIG, SMALL);
    }

    private void put() {
        promise(20, "Cell i of a SHEET becomes v: 1.");
        HourRehearsal x = prepared();
        due(x, "put(1, 0, " + BIG + ")", 1);
        due(x, "put(1, 4, " + SMALL + ")", 1);
        due(x, "fault()", 0);
        long[] due = {BIG, 10, 20, 1, SMALL};
        for (int i = 0; i < 5; i++) {
            due("cell " + i, x.cell(1, i, 2), due[i]);
        }
        promise(20, "UNKNOWN;");
        refusedFor("put(#, 0, 1)", UNKNOWN, -1, 4, BIG, SMALL);
        promise(20, "NULL;");
        faulty("put(3, 0, 1)", NULL);
        faulty("put(3, -1, 1)", NULL);
        promise(20, "INDEX.");
        faultyFor("put(1, #, 1)", INDEX, -1, 5, 59, 60, BIG, SMALL);
    }

    private void cell() {
        promise(21, "Cell i of what a SHEET has, taken as a row of a LANE.");
        HourRehearsal x = prepared();
        x.put(2, 1, -1);
        due(x, "cell(0, 0, 0)", 'c');
        due(x, "cell(0, 20, 0)", '2');
        due(x, "cell(2, 1, 1)", -1);
        due(x, "cell(1, 4, 2)", 22);
        due(x, "fault()", 0);
        promise(21, "LOST: UNKNOWN,");
        refusedFor("cell(#, 0, 0)", LOST, -1, 4, BIG, SMALL);
        promise(21, "OUTSIDE: lane;");
        refusedFor("cell(0, 0, #)", LOST, -1, 3, BIG, SMALL);
        refusedFor("cell(3, 0, #)", LOST, -1, 3, BIG, SMALL);
        promise(21, "FAULTS CAST (nothing is no CAST), NULL, INDEX.");
        faulty("cell(0, 0, 1)", CAST);
        faulty("cell(1, 0, 0)", CAST);
        faulty("cell(2, 0, 2)", CAST);
        for (int lane = 0; lane < 3; lane++) {
            faulty("cell(3, 0, " + lane + ")", NULL);
        }
        faultyFor("cell(1, #, 2)", INDEX, -1, 5, 59, 60, BIG, SMALL);
    }

    private void copy() {
        promise(22, "n cells of a SHEET from i on go to another one (perhaps the same) from j on, as they were: n.");
        HourRehearsal x = new HourRehearsal();
        Desk.row(x, 0, 2, 1, 2, 3, 4, 5);
        x.sheet(1, 2, 6);
        due(x, "copy(0, 0, 1, 1, 5)", 5);
        rowIs(x, 1, 0, 1, 2, 3, 4, 5);
        due(x, "copy(0, 4, 1, 0, 1)", 1);
        rowIs(x, 1, 5, 1, 2, 3, 4, 5);
        due(x, "copy(0, 5, 1, 6, 0)", 0);
        due(x, "copy(0, 0, 0, 1, 4)", 4);
        rowIs(x, 0, 1, 1, 2, 3, 4);
        due(x, "copy(1, 1, 1, 0, 5)", 5);
        rowIs(x, 1, 1, 2, 3, 4, 5, 5);
        due(x, "copy(1, 0, 1, 0, 6)", 6);
        rowIs(x, 1, 1, 2, 3, 4, 5, 5);
        x.sheet(2, 2, 60);
        x.put(2, 59, 7);
        x.sheet(3, 2, 60);
        due(x, "copy(2, 0, 3, 0, 60)", 60);
        due(x, "cell(3, 59, 2)", 7);
        due(x, "fault()", 0);
    }

    private void rowIs(HourRehearsal x, int sheet, int... cells) {
        for (int i = 0; i < cells.length; i++) {
            due("cell " + i + " of sheet " + sheet, x.cell(sheet, i, 2), cells[i]);
        }
    }

    private void copyFaults() {
        promise(22, "UNKNOWN;");
        refusedFor("copy(#, 0, 0, 0, 1)", UNKNOWN, -1, 4, BIG, SMALL);
        refusedFor("copy(0, 0, #, 0, 1)", UNKNOWN, -1, 4, BIG, SMALL);
        refusedFor("copy(3, 0, #, 0, -1)", UNKNOWN, -1, 4, BIG, SMALL);
        promise(22, "FAULTS NULL (the first, the other),");
        faulty("copy(3, 0, 0, 0, 1)", NULL);
        faulty("copy(0, 0, 3, 0, 1)", NULL);
        faulty("copy(3, 0, 3, 0, 0)", NULL);
        for (int k = 1; k <= 2; k++) {
            faulty("copy(3, 0, " + k + ", 0, -1)", NULL);
            faulty("copy(" + k + ", 0, 3, 0, -1)", NULL);
        }
        promise(22, "CAST (unlike LANES),");
        faulty("copy(0, 0, 1, 0, 1)", CAST);
        faulty("copy(1, 0, 0, 0, 0)", CAST);
        faulty("copy(2, 0, 1, 0, -1)", CAST);
        promise(22, "INDEX: i, j, n below 0 or beyond.");
        int[][] wrong = {{-1, 0, 1}, {0, -1, 1}, {0, 0, -1}, {5, 0, 1}, {0, 5, 1}, {0, 0, 6}, {1, 0, 5}, {0, 1, 5},
            {6, 0, 0}, {0, 6, 0}, {-1, 0, 0}, {0, -1, 0}, {BIG, 0, 1}, {0, BIG, 1}, {1, 0, BIG}, {0, 1, BIG},
            {SMALL, 0, 1}, {0, SMALL, 1}, {0, 0, SMALL}, {BIG, BIG, BIG}, {SMALL, SMALL, SMALL}};
        for (int[] row : wrong) {
            faulty("copy(1, " + row[0] + ", 1, " + row[1] + ", " + row[2] + ")", INDEX);
        }
        HourRehearsal x = prepared();
        x.sheet(3, 2, 3);
        faulty(x, "copy(1, 0, 3, 0, 4)", INDEX);
        faulty(x, "copy(3, 0, 1, 0, 4)", INDEX);
    }

    private void tell() {
        promise(23, "TELLING of a PLACE.");
        HourRehearsal x = prepared();
        due(x, "tell(0)", 5);
        due(x, "tell(1)", 104);
        due(x, "tell(2)", 104);
        promise(23, "UNKNOWN.");
        refusedFor("tell(#)", UNKNOWN, -1, 3, BIG, SMALL);
        refused(withoutPiece(), "tell(0)", UNKNOWN);
    }

    private void hum() {
        promise(24, "How it is HUMMED.");
        HourRehearsal x = prepared();
        due(x, "hum(0)", 0);
        due(x, "hum(1)", 1);
        due(x, "hum(2)", 30);
        promise(24, "UNKNOWN.");
        refusedFor("hum(#)", UNKNOWN, -1, 3, BIG, SMALL);
        refused(withoutPiece(), "hum(0)", UNKNOWN);
    }

    private void as() {
        promise(25, "A PLACE, taken as one of a kind: 1.");
        HourRehearsal x = prepared();
        due(x, "as(0, 0)", 1);
        due(x, "as(1, 1)", 1);
        due(x, "as(2, 2)", 1);
        due(x, "fault()", 0);
        promise(25, "UNKNOWN;");
        refusedFor("as(#, 0)", UNKNOWN, -1, 3, BIG, SMALL);
        refused(withoutPiece(), "as(0, 0)", UNKNOWN);
        promise(25, "OUTSIDE;");
        refusedFor("as(2, #)", OUTSIDE, -1, 3, BIG, SMALL);
        promise(25, "CAST: it is none (each is a PLACE, too; a HIGH one is KNOTTY).");
        faulty("as(0, 1)", CAST);
        faulty("as(0, 2)", CAST);
        faulty("as(1, 2)", CAST);
        due(x, "as(1, 0)", 1);
        due(x, "as(2, 0)", 1);
        due(x, "as(2, 1)", 1);
    }

    private void trace() {
        promise(26, "TRACE.");
        HourRehearsal x = new HourRehearsal();
        due(x, "trace()", 0);
        x = Desk.with("c60;h5110");
        x.tell(0);
        x.hum(0);
        int due = (((3 * 31 + 2) * 31 + 1) * 31 + 1) * 31 + 5;
        due("trace", x.trace(), due);
        due("asked again", x.trace(), due);
    }

    private void fault() {
        promise(27, "The FAULT of the latest call that names one: 0: it came to none, or was refused (0 ahead of any).");
        HourRehearsal x = new HourRehearsal();
        due("ahead of any", x.fault(), 0);
        x = prepared();
        String[] withoutFault = {"piece(0, 0, 0, 20)", "plan(1, 2, 0, 3, 0)", "plan(1, 2, 0, 4, 0)",
            "right(1, 2, 0, 3, 0)", "worse(1, 2, 0, 3)", "worth(1, 2, 0, 3, 0)", "kinds(0, 1, 2, 0, 3)", "put(1, 4, 22)",
            "cell(0, 0, 0)", "copy(0, 0, 0, 0, 0)", "as(0, 0)", "sheet(2, 0, 0)", "piece(0, 0, 0, 21)",
            "piece(4, 0, 0, 0)", "as(0, 3)"};
        for (String call : withoutFault) {
            x.put(3, 0, 0);
            due("of put()", x.fault(), NULL);
            Calls.answer(x, call);
            due("behind " + call, x.fault(), 0);
        }
        x.put(3, 0, 0);
        String[] namingNone = {"ofPlace(0, 0)", "sure(0, 4)", "minutes(50)", "best(1, 0)", "top(1, 0)", "soonest(0, 5)",
            "luck(0, 0, 0)", "reading(0, 5)", "back(1)", "plans(1, 0)", "lose(0)", "tell(0)", "hum(0)", "trace()",
            "fault()", "many(0)"};
        for (String call : namingNone) {
            Calls.answer(x, call);
            due("behind " + call, x.fault(), NULL);
        }
    }

    private void many() {
        promise(28, "How many: 0 PLACES, 1 JOINS, 2 MINUTES there are, 3 READINGS (0 all without a PIECE).");
        int[] due = {3, 2, 55, 2};
        for (int what = 0; what < 4; what++) {
            due("many(" + what + ")", prepared().many(what), due[what]);
            due("many(" + what + ") without a piece", withoutPiece().many(what), 0);
        }
        due("joins of one place", Desk.with("c05;p5110").many(1), 0);
        due("joins of six places", Desk.with("c60;p5110;p5110;p5110;p5110;p5110;p5110").many(1), 5);
        promise(28, "OUTSIDE.");
        refusedFor("many(#)", OUTSIDE, -1, 4, BIG, SMALL);
        refused(withoutPiece(), "many(-1)", OUTSIDE);
        refused(withoutPiece(), "many(4)", OUTSIDE);
    }
}

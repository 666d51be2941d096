/** Part 1 of the terms, promises 1 to 5: the piece. */
final class PiecePart extends Part {
    private static final String SIX = "c60;p5115;p5115;p5115;p5115;p5115;p5115";
    private static final int HEAD = 3, CODES_OF_PLACE = 6;

    PiecePart(Checks checks, Sentences sentences) {
        super(checks, sentences);
    }

    @Override
    void show() {
        textMinutes();
        textPlaces();
        textLetters();
        textDigits();
        firstFault();
        firstFaultOfMinutesAndSeventh();
        firstFaultAtTheEnd();
        codes();
        kindsOfPlaces();
        allAnew();
        gains();
        joins();
        newObject();
        piece();
        pieceRefusals();
        ofPlace();
        sure();
        minutes();
    }

    private static int taken(String text) {
        return Desk.take(new HourRehearsal(), text);
    }

    private void textMinutes() {
        terms("==== 1 A PIECE by a TEXT: c, two digits (MINUTES there are: 05 .. 60),");
        for (int minutes = 0; minutes < 100; minutes++) {
            String text = "c" + minutes / 10 + minutes % 10 + ";p5110";
            HourRehearsal x = new HourRehearsal();
            boolean isOne = minutes >= 5 && minutes <= 60;
            due(text, Desk.take(x, text), isOne ? 1 : minutes >= 70 ? -101 : -102);
            due("minutes of " + text, x.many(2), isOne ? minutes : 0);
        }
        due("C60;p5110", taken("C60;p5110"), -100);
        due("b60;p5110", taken("b60;p5110"), -100);
        due("d60;p5110", taken("d60;p5110"), -100);
    }

    private void textPlaces() {
        terms("then 1 to 6 PLACES, numbered from 0 on, each:");
        StringBuilder text = new StringBuilder("c60");
        due("no place", taken(text.toString()), -103);
        for (int count = 1; count <= 6; count++) {
            text.append(";p").append(count).append("110");
            HourRehearsal x = new HourRehearsal();
            due("places", Desk.take(x, text.toString()), count);
            for (int k = 0; k < count; k++) {
                due("sure of place " + k, x.ofPlace(k, 1), k + 1);
            }
            due("one more", x.ofPlace(count, 1), UNKNOWN);
            due("one less than the first", x.ofPlace(-1, 1), UNKNOWN);
        }
        text.append(";p7110");
        due("seven", taken(text.toString()), -139);
    }

    /** A code of the text of six places becomes another one. */
    private static String with(int at, char code) {
        StringBuilder text = new StringBuilder(SIX);
        text.setCharAt(at, code);
        return text.toString();
    }

    private void textLetters() {
        terms("; and a letter,");
        for (int k = 0; k < 6; k++) {
            int at = HEAD + k * CODES_OF_PLACE;
            for (char code : new char[] {':', '<', ',', ' ', 'p', '0'}) {
                due(with(at, code), taken(with(at, code)), -100 - at);
            }
            for (char code : new char[] {'o', 'q', 'j', 'l', 'g', 'i', 'P', 'K', 'H', 'c', ';', '1'}) {
                due(with(at + 1, code), taken(with(at + 1, code)), -101 - at);
            }
            for (char code : new char[] {'p', 'k', 'h'}) {
                due(with(at + 1, code), taken(with(at + 1, code)), 6);
            }
        }
    }

    private void textDigits() {
        terms("a digit 0 .. 9 (SURE, in tenths),");
        digits(2, 1, '0', '9');
        terms("a digit 1 .. 9 (LONG, minutes),");
        digits(3, 2, '1', '9');
        terms("a digit 1 .. 9 (LIPS),");
        digits(4, 3, '1', '9');
        terms("a digit 0 .. 5 (FROM).");
        digits(5, 4, '0', '5');
    }

    private void digits(int code, int what, char least, char most) {
        for (int k = 0; k < 6; k++) {
            int at = HEAD + k * CODES_OF_PLACE + code;
            due(with(at, (char) (least - 1)), taken(with(at, (char) (least - 1))), -100 - at);
            due(with(at, (char) (most + 1)), taken(with(at, (char) (most + 1))), -100 - at);
            for (char digit : new char[] {least, most}) {
                HourRehearsal x = Desk.with(with(at, digit));
                due(with(at, digit), x.many(0), 6);
                due(with(at, digit) + " of place " + k, x.ofPlace(k, what), digit - '0');
            }
        }
    }

    private void firstFault() {
        terms("FIRST FAULT: the place (from 0 on) of the first code with which no TEXT goes on");
        for (int at = 0; at < SIX.length(); at++) {
            due(with(at, 'x'), taken(with(at, 'x')), -100 - at);
        }
        due("the first of two", taken("c60;x5110;x"), -104);
        due("ahead of an end too soon", taken("c60x"), -103);
        HourRehearsal x = new HourRehearsal();
        Desk.write(x, "zzzc60;x5110");
        due("from where the text begins on", x.piece(0, 0, 3, 9), -104);
    }

    private void firstFaultOfMinutesAndSeventh() {
        terms("(of MINUTES the second digit, if they are none of these, or the first one, if none begins so; the ; of a"
            + " seventh PLACE);");
        String[] second = {"c00", "c04", "c61", "c69", "c0:", "c6:", "c5/", "c04;p5110", "c61;p5110"};
        for (String text : second) {
            due(text, taken(text), -102);
        }
        String[] first = {"c7", "c9", "c:", "c/", "c70", "c75;p5110", "cc0;p5110"};
        for (String text : first) {
            due(text, taken(text), -101);
        }
        due("the ; of a seventh", taken(SIX + ";"), -139);
        due("a seventh", taken(SIX + ";p5110"), -139);
        due("another code there", taken(SIX + "x"), -139);
        due("six", taken(SIX), 6);
    }

    private void firstFaultAtTheEnd() {
        terms("how many codes there are, if it just ends too soon.");
        for (int n = 0; n <= SIX.length(); n++) {
            boolean isWhole = n > HEAD && n % CODES_OF_PLACE == HEAD;
            due("the first " + n + " codes", taken(SIX.substring(0, n)), isWhole ? n / CODES_OF_PLACE : -100 - n);
        }
        due("c0", taken("c0"), -102);
        due("c6", taken("c6"), -102);
    }

    private void codes() {
        terms("(Codes: c 99, p 112, k 107, h 104, ; 59, digits 48 .. 57.)");
        HourRehearsal x = new HourRehearsal();
        Desk.row(x, 0, 2, 99, 53, 57, 59, 112, 48, 49, 49, 48, 59, 107, 57, 57, 57, 53, 59, 104, 56, 55, 54, 52);
        due(x, "piece(0, 2, 0, 21)", 3);
        due(x, "many(2)", 59);
        int[][] due = {{0, 0, 1, 1, 0}, {1, 9, 9, 9, 5}, {2, 8, 7, 6, 4}};
        for (int k = 0; k < 3; k++) {
            for (int what = 0; what < 5; what++) {
                due("ofPlace(" + k + ", " + what + ")", x.ofPlace(k, what), due[k][what]);
            }
        }
    }

    private void kindsOfPlaces() {
        terms("Kinds: 0 PLACE (p); 1 KNOTTY (k), a PLACE; 2 HIGH (h), a KNOTTY.");
        HourRehearsal x = Desk.with("c60;p5110;k5110;h5110");
        for (int k = 0; k < 3; k++) {
            due("kind", x.ofPlace(k, 0), k);
            for (int kind = 0; kind < 3; kind++) {
                due("as(" + k + ", " + kind + ")", x.as(k, kind), kind <= k ? 1 : -10 - CAST);
            }
        }
    }

    private void allAnew() {
        terms("A TEXT that is taken makes all anew: no READINGS.");
        HourRehearsal x = Desk.with("c60;p5110;k5110");
        x.sure(0, 9);
        x.minutes(20);
        x.reading(0, 1);
        x.reading(1, 2);
        due("not taken", Desk.take(x, "c50;h3210;x"), -110);
        due("readings", x.many(3), 2);
        due("sure", x.ofPlace(0, 1), 9);
        due("minutes", x.many(2), 20);
        due("the same again", Desk.take(x, "c60;p5110;k5110"), 2);
        due("readings", x.many(3), 0);
        due("back", x.back(1), OUTSIDE);
        due("sure", x.ofPlace(0, 1), 5);
        due("minutes", x.many(2), 60);
        due("all plans are as seen", x.plans(0, -1), 1);
        due("a smaller one", Desk.take(x, "c07;h4321"), 1);
        due("places", x.many(0), 1);
        due("joins", x.many(1), 0);
        due("minutes", x.many(2), 7);
        due("no second one", x.ofPlace(1, 0), UNKNOWN);
        int[] due = {2, 4, 3, 2, 1, 1};
        for (int what = 0; what < 6; what++) {
            due("ofPlace(0, " + what + ")", x.ofPlace(0, what), due[what]);
        }
    }

    private void gains() {
        terms("GAINS, in tenths: a PLACE 3; a KNOTTY one 1 less; a HIGH one half of what a KNOTTY one does (cut).");
        HourRehearsal x = Desk.with("c60;p0110;k0110;h0110");
        for (int k = 0; k < 3; k++) {
            due("gains", x.ofPlace(k, 5), 3 - k);
            due("quick", Desk.plan(x, 10 + k, k), 3 - k);
        }
    }

    private void joins() {
        terms("JOINS: number k between PLACE k and the next one: 5 tenths SURE at first.");
        for (int count = 1; count <= 6; count++) {
            HourRehearsal x = Desk.with(SIX.substring(0, HEAD + count * CODES_OF_PLACE));
            due("joins", x.many(1), count - 1);
            for (int k = 0; k < 5; k++) {
                due("join " + k + " of " + count + " places", Desk.plan(x, 20 + k), k < count - 1 ? 5 : NONE);
            }
        }
    }

    private void newObject() {
        promise(1, "No PIECE (no PLACES),");
        HourRehearsal x = new HourRehearsal();
        for (int what = 0; what < 4; what++) {
            due("many", x.many(what), 0);
        }
        for (int k = 0; k < 6; k++) {
            due("place", x.ofPlace(k, 0), UNKNOWN);
        }
        due("state", x.minutes(30), STATE);
        promise(1, "SHEETS have nothing.");
        for (int k = 0; k < 4; k++) {
            due("put", x.put(k, 0, 0), -10 - NULL);
            due("lose", x.lose(k), 0);
        }
    }

    private void piece() {
        promise(2, "A PIECE by a TEXT of n cells of a SHEET from i on, taken as a row of a LANE: how many PLACES;");
        for (int lane = 0; lane < 3; lane++) {
            HourRehearsal x = new HourRehearsal();
            String text = "c59;p5110;k7234";
            x.sheet(3, lane, 60);
            for (int i = 0; i < text.length(); i++) {
                x.put(3, 45 + i, text.charAt(i));
            }
            due("the last cells", x.piece(3, lane, 45, 15), 2);
            due("minutes", x.many(2), 59);
            int[] due = {1, 7, 2, 3, 4, 2};
            for (int what = 0; what < 6; what++) {
                due("ofPlace(1, " + what + ")", x.ofPlace(1, what), due[what]);
            }
            due("fewer of them", x.piece(3, lane, 45, 9), 1);
            due("from 44 on", x.piece(3, lane, 44, 15), -100);
            x.put(3, 45, 'c' + 256);
            due("c and 256", x.piece(3, lane, 45, 15), lane == 0 ? 2 : -100);
            x.put(3, 45, 'c' + 65536);
            due("c and 65536", x.piece(3, lane, 45, 15), lane == 2 ? -100 : 2);
            x.put(3, 45, -'c');
            due("c, below 0", x.piece(3, lane, 45, 15), -100);
        }
        promise(2, "-100 less the FIRST FAULT.");
        due("none", taken(""), -100);
        due("the last that there can be", taken(SIX + ";p5110;p5110;p5110"), -139);
        due("ends ahead of the last code", taken(SIX.substring(0, 38)), -138);
    }

    private void pieceRefusals() {
        promise(2, "UNKNOWN;");
        refused("piece(-1, 0, 0, 21)", UNKNOWN);
        refused("piece(4, 0, 0, 21)", UNKNOWN);
        refused("piece(" + BIG + ", 0, 0, 21)", UNKNOWN);
        refused("piece(" + SMALL + ", 0, 0, 21)", UNKNOWN);
        promise(2, "OUTSIDE: lane;");
        refused("piece(0, -1, 0, 21)", OUTSIDE);
        refused("piece(0, 3, 0, 21)", OUTSIDE);
        refused("piece(3, 3, 0, 21)", OUTSIDE);
        promise(2, "FAULTS CAST (nothing is no CAST), NULL,");
        faulty("piece(0, 1, 0, 21)", CAST);
        faulty("piece(0, 2, 0, 21)", CAST);
        for (int lane = 0; lane < 3; lane++) {
            faulty("piece(3, " + lane + ", 0, 21)", NULL);
        }
        promise(2, "SIZE: n is below 0,");
        faulty("piece(0, 0, 0, -1)", SIZE);
        faulty("piece(0, 0, 22, -1)", SIZE);
        promise(2, "INDEX: not all cells are there;");
        faulty("piece(0, 0, 0, 22)", INDEX);
        faulty("piece(0, 0, 1, 21)", INDEX);
        faulty("piece(0, 0, -1, 21)", INDEX);
        faulty("piece(0, 0, 21, 1)", INDEX);
        faulty("piece(0, 0, " + BIG + ", " + BIG + ")", INDEX);
        faulty("piece(0, 0, 1, " + BIG + ")", INDEX);
        faulty("piece(0, 0, " + SMALL + ", " + BIG + ")", INDEX);
        promise(2, "-100 less it.");
        refused("piece(0, 0, 0, 20)", -120);
        refused("piece(0, 0, 1, 20)", -100);
        refused("piece(1, 2, 0, 5)", -100);
    }

    private void ofPlace() {
        promise(3, "Of a PLACE: 0 kind, 1 SURE, 2 LONG, 3 LIPS, 4 FROM, 5 GAINS.");
        HourRehearsal x = prepared();
        int[][] due = {{0, 3, 5, 2, 0, 3}, {1, 7, 4, 1, 3, 2}, {2, 2, 2, 1, 2, 1}};
        for (int k = 0; k < 3; k++) {
            for (int what = 0; what < 6; what++) {
                due("ofPlace(" + k + ", " + what + ")", x.ofPlace(k, what), due[k][what]);
            }
        }
        promise(3, "UNKNOWN;");
        refusedFor("ofPlace(#, 0)", UNKNOWN, -1, 3, 6, BIG, SMALL);
        refused(withoutPiece(), "ofPlace(0, 0)", UNKNOWN);
        promise(3, "OUTSIDE.");
        refusedFor("ofPlace(0, #)", OUTSIDE, -1, 6, BIG, SMALL);
    }

    private void sure() {
        promise(4, "A PLACE is v SURE at first (0 .. 10): what it was.");
        HourRehearsal x = prepared();
        due(x, "sure(2, 0)", 2);
        due(x, "sure(2, 10)", 0);
        due(x, "sure(2, 10)", 10);
        due("at first", Desk.plan(x, 12), 10);
        due(x, "ofPlace(2, 1)", 10);
        due(x, "ofPlace(0, 1)", 3);
        promise(4, "UNKNOWN;");
        refusedFor("sure(#, 5)", UNKNOWN, -1, 3, BIG, SMALL);
        refused(withoutPiece(), "sure(0, 5)", UNKNOWN);
        promise(4, "OUTSIDE.");
        refusedFor("sure(0, #)", OUTSIDE, -1, 11, BIG, SMALL);
    }

    private void minutes() {
        promise(5, "There are v MINUTES (5 .. 60): how many there were.");
        HourRehearsal x = prepared();
        due(x, "minutes(5)", 55);
        due(x, "minutes(60)", 5);
        due(x, "minutes(60)", 60);
        due(x, "many(2)", 60);
        promise(5, "OUTSIDE;");
        refusedFor("minutes(#)", OUTSIDE, -1, 0, 4, 61, BIG, SMALL);
        promise(5, "STATE: there is no PIECE.");
        refused(withoutPiece(), "minutes(5)", STATE);
        refused(withoutPiece(), "minutes(60)", STATE);
    }
}

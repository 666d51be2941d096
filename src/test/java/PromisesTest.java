/** Each promise by itself: ordinary inputs, the edges that the document names, wrong inputs. */
public final class PromisesTest {
    private static final int UNKNOWN = -1, OUTSIDE = -2, STATE = -3, FULL = -4, NONE = -9;
    private static final int NULL = -11, CAST = -12, INDEX = -13, SIZE = -14;
    private static final long LOST = Long.MIN_VALUE;
    private static final int BIG = Integer.MAX_VALUE, SMALL = Integer.MIN_VALUE;

    private static final Checks c = new Checks("PromisesTest");

    public static void main(String[] args) {
        newObject();
        pieceTaken();
        pieceFaultsOfText();
        pieceRefusals();
        pieceMakesAnew();
        ofPlace();
        sure();
        minutes();
        planSteps();
        planCantBe();
        planTired();
        planLips();
        planJoins();
        planRefusals();
        right();
        worse();
        worth();
        best();
        top();
        soonest();
        luck();
        reading();
        back();
        plans();
        kinds();
        sheet();
        lose();
        put();
        cell();
        copy();
        tellAndTrace();
        hum();
        as();
        fault();
        many();
        c.end();
    }

    private static void newObject() {
        c.about("1 a new object");
        HourRehearsal x = new HourRehearsal();
        for (int what = 0; what <= 3; what++) {
            c.due("many", x.many(what), 0);
        }
        for (int k = 0; k < 4; k++) {
            c.due("lose", x.lose(k), 0);
        }
        c.due("ofPlace", x.ofPlace(0, 0), UNKNOWN);
        c.due("trace", x.trace(), 0);
        c.due("fault", x.fault(), 0);
        c.due("NONE", HourRehearsal.NONE, NONE);
        c.due("LOST", HourRehearsal.LOST, LOST);
    }

    private static void pieceTaken() {
        c.about("2 piece, taken");
        HourRehearsal x = new HourRehearsal();
        c.due("four", Desk.take(x, Desk.FOUR), 4);
        c.due("six", Desk.take(x, "c05;p0110;k9995;h5555;p1234;k4321;h9111"), 6);
        c.due("minutes 05", x.many(2), 5);
        c.due("last kind", x.ofPlace(5, 0), 2);
        c.due("one", Desk.take(x, "c59;h0110"), 1);
        c.due("minutes 59", x.many(2), 59);
        for (int lane = 0; lane <= 2; lane++) {
            String text = "xc60;p5210y";
            x.sheet(2, lane, text.length());
            for (int i = 0; i < text.length(); i++) {
                x.put(2, i, text.charAt(i));
            }
            c.due("from 1 on, lane " + lane, x.piece(2, lane, 1, 9), 1);
            c.due("too long by one", x.piece(2, lane, 1, 10), -109);
            c.due("begun too soon", x.piece(2, lane, 0, 10), -100);
        }
    }

    private static void pieceFaultsOfText() {
        c.about("2 piece, first faults");
        HourRehearsal x = Desk.with("c60;p5210");
        String whole = "c60;p5210;k6413";
        for (int n = 0; n < whole.length(); n++) {
            if (n != 9) {
                c.due("ends at " + n, Desk.take(x, whole.substring(0, n)), -100 - n);
            }
        }
        String[] texts = {"C60;p5210", "c70;p5210", "c/0;p5210", "c61;p5210", "c04;p5210", "c00;p5210",
            "c6x;p5210", "c6/;p5210", "c5:;p5210", "c60:p5210", "c60;q5210", "c60;p:210", "c60;p/210",
            "c60;p5010", "c60;p5:10", "c60;p5200", "c60;p52:0", "c60;p5216", "c60;p521/", "c60;p5210p",
            "c60;p5210;k6416", "c60;p5210;;6413", "c70"};
        int[] places = {0, 1, 1, 2, 2, 2, 2, 2, 2, 3, 4, 5, 5, 6, 6, 7, 7, 8, 8, 9, 14, 10, 1};
        for (int t = 0; t < texts.length; t++) {
            x = Desk.with("c60;p5210");
            c.due(texts[t], Desk.take(x, texts[t]), -100 - places[t]);
            c.due("it stays", x.many(2), 60);
            c.due("no fault", x.fault(), 0);
        }
        String six = "c05;p0110;k9995;h5555;p1234;k4321;h9111";
        c.due("seventh", Desk.take(x, six + ";p5210"), -139);
        c.due("seventh, another code", Desk.take(x, six + "p"), -139);
        c.due("one still", x.many(0), 1);
        x.sheet(3, 2, 9);
        String text = "c60;p5210";
        for (int i = 0; i < 9; i++) {
            x.put(3, i, text.charAt(i));
        }
        x.put(3, 0, 'c' + 256);
        c.due("an int is not cut", x.piece(3, 2, 0, 9), -100);
    }

    private static void pieceRefusals() {
        c.about("2 piece, refusals and faults");
        HourRehearsal x = new HourRehearsal();
        Desk.write(x, "c60;p5210");
        c.due("sheet -1", x.piece(-1, 9, 0, 9), UNKNOWN);
        c.due("sheet 4", x.piece(4, 0, 0, 9), UNKNOWN);
        c.due("lane -1", x.piece(0, -1, 0, 9), OUTSIDE);
        c.due("lane 3", x.piece(1, 3, 0, 9), OUTSIDE);
        c.due("cast", x.piece(0, 1, -1, -1), CAST);
        c.due("fault", x.fault(), 2);
        c.due("null", x.piece(1, 1, -1, -1), NULL);
        c.due("fault", x.fault(), 1);
        c.due("size", x.piece(0, 0, -1, -1), SIZE);
        c.due("fault", x.fault(), 4);
        c.due("size", x.piece(0, 0, 0, SMALL), SIZE);
        c.due("below", x.piece(0, 0, -1, 5), INDEX);
        c.due("fault", x.fault(), 3);
        c.due("beyond", x.piece(0, 0, 0, 10), INDEX);
        c.due("beyond", x.piece(0, 0, 1, BIG), INDEX);
        c.due("beyond", x.piece(0, 0, BIG, BIG), INDEX);
        c.due("none of none", x.piece(0, 0, 9, 0), -100);
        c.due("none beyond", x.piece(0, 0, 10, 0), INDEX);
        c.due("none below", x.piece(0, 0, -1, 0), INDEX);
        c.due("no piece", x.many(0), 0);
        c.due("taken", x.piece(0, 0, 0, 9), 1);
        c.due("fault", x.fault(), 0);
    }

    private static void pieceMakesAnew() {
        c.about("2 piece, all anew");
        HourRehearsal x = Desk.with(Desk.FOUR);
        x.sure(0, 9);
        x.minutes(20);
        x.reading(0, 5);
        x.tell(0);
        c.due("not taken", Desk.take(x, "c60;"), -104);
        c.due("readings stay", x.many(3), 1);
        c.due("taken", Desk.take(x, Desk.FOUR), 4);
        c.due("no readings", x.many(3), 0);
        c.due("sure", x.ofPlace(0, 1), 3);
        c.due("minutes", x.many(2), 60);
        c.due("the trace goes on", x.trace(), 1);
        c.due("the sheet stays", x.cell(0, 0, 0), 'c');
    }

    private static void ofPlace() {
        c.about("3 ofPlace");
        HourRehearsal x = Desk.with("c60;p3520;k6413;h2212");
        int[][] due = {{0, 3, 5, 2, 0, 3}, {1, 6, 4, 1, 3, 2}, {2, 2, 2, 1, 2, 1}};
        for (int k = 0; k < 3; k++) {
            for (int what = 0; what < 6; what++) {
                c.due("ofPlace(" + k + ", " + what + ")", x.ofPlace(k, what), due[k][what]);
            }
        }
        c.due("place 3", x.ofPlace(3, 0), UNKNOWN);
        c.due("place -1", x.ofPlace(-1, 6), UNKNOWN);
        c.due("what -1", x.ofPlace(0, -1), OUTSIDE);
        c.due("what 6", x.ofPlace(0, 6), OUTSIDE);
        Desk.take(x, "c60;p3520");
        c.due("a place of the piece before", x.ofPlace(1, 0), UNKNOWN);
    }

    private static void sure() {
        c.about("4 sure");
        HourRehearsal x = Desk.with(Desk.FOUR);
        c.due("was", x.sure(1, 10), 6);
        c.due("was", x.sure(1, 0), 10);
        c.due("is", x.ofPlace(1, 1), 0);
        c.due("at the end", Desk.plan(x, 11), 0);
        c.due("right", Desk.right(x, 0), 0);
        c.due("lower", Desk.right(x, 1), 1);
        c.due("below", x.sure(1, -1), OUTSIDE);
        c.due("above", x.sure(1, 11), OUTSIDE);
        c.due("no place", x.sure(4, 11), UNKNOWN);
        c.due("it stays", x.ofPlace(1, 1), 0);
        c.due("no piece", new HourRehearsal().sure(0, 5), UNKNOWN);
    }

    private static void minutes() {
        c.about("5 minutes");
        HourRehearsal x = Desk.with(Desk.FOUR);
        c.due("was", x.minutes(5), 60);
        c.due("was", x.minutes(60), 5);
        c.due("below", x.minutes(4), OUTSIDE);
        c.due("above", x.minutes(61), OUTSIDE);
        c.due("is", x.many(2), 60);
        x.minutes(9);
        c.due("a plan", Desk.plan(x, 1, 0, 0), 1);
        x.minutes(10);
        c.due("a plan", Desk.plan(x, 1, 0, 0), NONE);
        c.due("outside goes ahead", new HourRehearsal().minutes(4), OUTSIDE);
        c.due("no piece", new HourRehearsal().minutes(5), STATE);
    }

    private static void planSteps() {
        c.about("6 plan, steps");
        HourRehearsal x = Desk.with(Desk.FOUR);
        c.due("nothing takes", Desk.plan(x, 0), 0);
        c.due("quick takes", Desk.plan(x, 0, 0), 5);
        c.due("slow takes", Desk.plan(x, 0, 10), 10);
        c.due("run takes", Desk.plan(x, 0, 20), 17);
        c.due("break takes", Desk.plan(x, 0, 21), 15);
        c.due("all take", Desk.plan(x, 0, 0, 10, 20, 21), 47);
        c.due("quick plain", Desk.plan(x, 10, 0), 6);
        c.due("slow plain", Desk.plan(x, 10, 10), 9);
        c.due("quick knotty", Desk.plan(x, 11, 21, 21, 1), 8);
        c.due("slow knotty", Desk.plan(x, 11, 21, 21, 11), 10);
        c.due("quick high", Desk.plan(x, 12, 21, 21, 2), 3);
        c.due("slow high", Desk.plan(x, 12, 21, 21, 12), 4);
        c.due("ten at most", Desk.plan(x, 13, 13), 10);
        c.due("others stay", Desk.plan(x, 13, 0), 8);
        c.due("no place 4", Desk.plan(x, 14, 0), NONE);
        c.due("no place 5", Desk.plan(x, 15, 0), NONE);
        c.due("no join 3", Desk.plan(x, 23, 0), NONE);
        c.due("no join 4", Desk.plan(x, 24, 0), NONE);
        x = Desk.with("c60;p1190;p1190;p1190;p1190;p1190;p1190");
        c.due("place 5", Desk.plan(x, 15, 5), 4);
        c.due("place 5, slow", Desk.plan(x, 15, 15), 7);
        c.due("join 4", Desk.plan(x, 24, 20), 7);
        int[] twenty = new int[20];
        c.due("twenty steps", Desk.plan(x, 0, twenty), 20);
    }

    private static void planCantBe() {
        c.about("6 plan, what can't be");
        HourRehearsal x = Desk.with(Desk.FOUR);
        c.due("ends with the minutes", Desk.plan(x, 0, 21, 21, 21, 21), 60);
        c.due("ends behind them", Desk.plan(x, 1, 21, 21, 21, 21, 3), 4);
        c.due("so told", Desk.plan(x, 0, 21, 21, 21, 21, 3), -104);
        c.due("sure", Desk.plan(x, 10, 21, 21, 21, 21, 3), -104);
        c.due("ahead of no place", Desk.plan(x, 15, 21, 21, 21, 21, 3), -104);
        c.due("ahead of its from", Desk.plan(x, 1, 1), 0);
        c.due("ahead of its from, slow", Desk.plan(x, 1, 11), 0);
        c.due("from 30 on", Desk.plan(x, 1, 21, 21, 1), NONE);
        c.due("at 29", Desk.plan(x, 1, 21, 13, 2, 1), 3);
        c.due("a run waits for nobody", Desk.plan(x, 1, 20), NONE);
        c.due("the first of two", Desk.plan(x, 1, 0, 2, 1), 1);
        x = Desk.with("c05;p5910");
        c.due("quick too long", Desk.plan(x, 1, 0), 0);
        c.due("run too long", Desk.plan(x, 1, 20), 0);
        c.due("break too long", Desk.plan(x, 1, 21), 0);
    }

    private static void planTired() {
        c.about("6 plan, tired");
        HourRehearsal x = Desk.with("c60;p0590;p0190");
        c.due("at 39", Desk.plan(x, 10, 21, 21, 1, 1, 1, 1, 0), 3);
        c.due("at 40 without a break", Desk.plan(x, 10, 10, 10, 10, 10, 1, 0), 10);
        x = Desk.with("c60;p0990;p0490;p0190");
        c.due("at 39", Desk.plan(x, 12, 10, 10, 2, 2, 2, 2), 10);
        c.due("at 40", Desk.plan(x, 12, 10, 10, 1, 2), 0);
        c.due("slow at 40", Desk.plan(x, 12, 10, 10, 1, 12), 0);
        c.due("a run at 39", Desk.plan(x, 20, 10, 10, 2, 2, 2, 20), 7);
        c.due("a run at 40", Desk.plan(x, 20, 10, 10, 1, 20), 5);
        c.due("a break at 36", Desk.plan(x, 12, 10, 10, 21, 2), 3);
        c.due("a break at 40", Desk.plan(x, 12, 10, 10, 1, 21, 2), 3);
        c.due("39 since the break", Desk.plan(x, 12, 21, 10, 10, 2, 2, 2, 2), 10);
        c.due("40 since the break", Desk.plan(x, 12, 21, 10, 10, 1, 2), 0);
        c.due("40 since the first break, not the latest", Desk.plan(x, 12, 21, 10, 21, 0, 2), 3);
        c.due("a break of the plan before is no break", Desk.plan(x, 12, 10, 10, 1, 2), 0);
    }

    private static void planLips() {
        c.about("6 plan, lips");
        HourRehearsal x = Desk.with("c60;p3520;k6413;p0110");
        c.due("twice", Desk.plan(x, 10, 0, 0), 9);
        c.due("a third time", Desk.plan(x, 10, 10, 0, 0), 9);
        c.due("a fourth time", Desk.plan(x, 10, 0, 10, 0, 10), 8);
        c.due("a run is no time", Desk.plan(x, 10, 20, 20, 0, 0), 9);
        c.due("zero at least", Desk.plan(x, 12, 2, 2, 2, 2, 2, 2), 0);
        c.due("tired, too", Desk.plan(x, 10, 0, 0, 10, 10, 10), 6);
        x = Desk.with("c60;p5910;p5110");
        c.due("tired and once too often", Desk.plan(x, 10, 10, 10, 1, 1, 1, 1, 0), 8);
        x = Desk.with("c60;p0910;p0410;p5110");
        c.due("a tired one counts", Desk.plan(x, 12, 10, 10, 1, 2, 2), 4);
    }

    private static void planJoins() {
        c.about("6 plan, joins");
        HourRehearsal x = Desk.with("c60;p1110;p1110;p1110");
        c.due("at first", Desk.plan(x, 20), 5);
        c.due("one run", Desk.plan(x, 20, 20), 7);
        c.due("two runs", Desk.plan(x, 21, 20, 20), 9);
        c.due("ten at most", Desk.plan(x, 21, 20, 20, 20), 10);
        c.due("no join 2", Desk.plan(x, 22, 20), NONE);
        c.due("a run makes no place surer", Desk.plan(x, 10, 20), 1);
        x = Desk.with("c60;p1110");
        c.due("no join 0", Desk.plan(x, 20, 20), NONE);
    }

    private static void planRefusals() {
        c.about("6 plan, refusals and faults");
        HourRehearsal x = Desk.with(Desk.FOUR);
        Desk.steps(x, 0, 3, 22, 4, 14, -1, 16, 6, 9, 19);
        c.due("sheet", x.plan(4, 9, 0, 21, 2), UNKNOWN);
        c.due("sheet", x.plan(-1, 2, 0, 1, 0), UNKNOWN);
        c.due("lane", x.plan(1, 3, 0, 1, 0), OUTSIDE);
        c.due("lane", x.plan(3, -1, 0, 1, 0), OUTSIDE);
        c.due("n", x.plan(3, 2, 0, -1, 0), OUTSIDE);
        c.due("n", x.plan(3, 2, 0, 21, 0), OUTSIDE);
        for (int what : new int[] {-1, 2, 9, 16, 19, 25, BIG, SMALL}) {
            c.due("what " + what, x.plan(1, 2, 0, 1, what), OUTSIDE);
        }
        c.due("cast", x.plan(1, 0, -1, 1, 0), CAST);
        c.due("null", x.plan(2, 0, -1, 1, 0), NULL);
        c.due("index", x.plan(1, 2, -1, 1, 0), INDEX);
        c.due("index", x.plan(1, 2, 9, 2, 0), INDEX);
        c.due("index of none", x.plan(1, 2, 11, 0, 0), INDEX);
        c.due("none", x.plan(1, 2, 10, 0, 0), 0);
        c.due("index far", x.plan(1, 2, BIG, 20, 0), INDEX);
        c.due("the second cell alone", x.plan(1, 2, 1, 1, 0), 6);
        for (int i = 2; i < 10; i++) {
            c.due("step " + i, x.plan(1, 2, i, 1, 0), UNKNOWN);
            c.due("step " + i, x.plan(1, 2, i, 1, 1), UNKNOWN);
        }
        x.put(1, 0, 1);
        c.due("unknown ahead of a first wrong", x.plan(1, 2, 0, 3, 1), UNKNOWN);
        x.put(1, 0, SMALL);
        c.due("unknown", x.plan(1, 2, 0, 1, 0), UNKNOWN);
        HourRehearsal none = new HourRehearsal();
        Desk.steps(none, 22);
        c.due("fault ahead of state", none.plan(1, 2, 0, 2, 0), INDEX);
        c.due("state ahead of a step", none.plan(1, 2, 0, 1, 0), STATE);
        c.due("state, no fault", none.fault(), 0);
    }

    private static void right() {
        c.about("7 right");
        HourRehearsal x = Desk.with(Desk.FOUR);
        c.due("upper", Desk.right(x, 0), 9);
        c.due("lower", Desk.right(x, 1), 2500);
        c.due("upper", Desk.right(x, 0, 10, 20, 20), 19683);
        c.due("lower", Desk.right(x, 1, 10, 20, 20), 312500);
        c.due("a first wrong", Desk.right(x, 0, 1), LOST);
        c.due("which", Desk.right(x, 2, 0), LOST);
        c.due("which", Desk.right(x, -1, 0), LOST);
        c.due("a step", Desk.right(x, 0, 4), LOST);
        c.due("cast", x.right(1, 0, 0, 1, 0), LOST);
        c.due("fault", x.fault(), 2);
        c.due("refused ahead of it", x.right(1, 0, 0, 1, 2), LOST);
        c.due("fault", x.fault(), 0);
        c.due("index", x.right(1, 2, 0, 2, 0), LOST);
        c.due("fault", x.fault(), 3);
        x = Desk.with("c60;p7110");
        c.due("least terms as it is", Desk.right(x, 0), 7);
        c.due("least terms as it is", Desk.right(x, 1), 10);
        x = Desk.with("c60;p9110;p9110;p9110;p9110;p9110;p9110");
        c.due("nine to six", Desk.right(x, 0), 531441);
        c.due("of 2 to 5 times 10 to 6", Desk.right(x, 1), 32000000);
        c.due("all is sure", Desk.right(x, 0, 0, 1, 2, 3, 4, 5, 20, 20, 20), 1);
        c.due("of one", Desk.right(x, 1, 0, 1, 2, 3, 4, 5, 20, 20, 20), 1);
    }

    private static void worse() {
        c.about("8 worse");
        HourRehearsal x = Desk.with(Desk.FOUR);
        c.due("the third", Desk.worse(x, 0, 0, 0), 2);
        c.due("none", Desk.worse(x, 0, 0), NONE);
        c.due("of none", Desk.worse(x), NONE);
        c.due("a run, a break", Desk.worse(x, 20, 21), NONE);
        c.due("the first of two", Desk.worse(x, 3, 3, 3), 1);
        c.due("of two places", Desk.worse(x, 0, 0, 3, 3, 0), 3);
        c.due("a first wrong", Desk.worse(x, 3, 3, 1), -102);
        c.due("cast", x.worse(1, 1, 0, 1), CAST);
        c.due("fault", x.fault(), 2);
        c.due("sheet", x.worse(4, 2, 0, 1), UNKNOWN);
        c.due("n", x.worse(1, 2, 0, 21), OUTSIDE);
        c.due("lane", x.worse(1, 3, 0, 1), OUTSIDE);
        c.due("null", x.worse(3, 2, 0, 1), NULL);
        c.due("index", x.worse(1, 2, 3, 1), INDEX);
        c.due("a step", Desk.worse(x, 9), UNKNOWN);
        x = Desk.with("c60;h0110;p5110");
        c.due("it became zero by the second", Desk.worse(x, 0, 0, 0), 1);
        x = Desk.with("c60;p0920;p0110");
        c.due("zero does not become less", Desk.worse(x, 10, 10, 1, 1, 1, 1, 1, 1), 3);
        x = Desk.with("c60;p0990;p0490;p0110");
        c.due("zero stays zero", Desk.worse(x, 10, 10, 1, 2, 2, 2), NONE);
        HourRehearsal none = new HourRehearsal();
        Desk.steps(none, 0);
        c.due("no piece", none.worse(1, 2, 0, 1), STATE);
    }

    private static void worth() {
        c.about("9 worth");
        HourRehearsal x = Desk.with(Desk.FOUR);
        c.due("quick", Desk.worth(x, 0, 0), 36000);
        c.due("slow of three", Desk.worth(x, 0, 10, 0, 0), 0);
        c.due("made worse", Desk.worth(x, 2, 10, 0, 0), -12000);
        c.due("a run", Desk.worth(x, 1, 0, 20), 576L * (343 - 125));
        c.due("a first wrong", Desk.worth(x, 0, 0, 1), LOST);
        c.due("one without it", Desk.worth(x, 0, 21, 21, 1), LOST);
        c.due("no fault", x.fault(), 0);
        c.due("the last of them", Desk.worth(x, 2, 21, 21, 1), 12000);
        c.due("k -1", Desk.worth(x, -1, 0), LOST);
        c.due("k n", Desk.worth(x, 1, 0), LOST);
        c.due("cast, k outside", x.worth(1, 0, 0, 1, 1), LOST);
        c.due("fault", x.fault(), 0);
        c.due("cast", x.worth(1, 0, 0, 1, 0), LOST);
        c.due("fault", x.fault(), 2);
        c.due("null", x.worth(3, 0, 0, 1, 0), LOST);
        c.due("fault", x.fault(), 1);
        c.due("index", x.worth(1, 2, 1, 1, 0), LOST);
        c.due("fault", x.fault(), 3);
        c.due("n", x.worth(1, 2, 0, 21, 0), LOST);
        c.due("fault", x.fault(), 0);
        c.due("a step", Desk.worth(x, 0, 0, 22), LOST);
        x = Desk.with("c60;p5110");
        c.due("parts of ten", Desk.worth(x, 0, 0), 3);
    }

    private static void best() {
        c.about("10 best");
        HourRehearsal x = Desk.with(Desk.FOUR);
        int[][] due = {{NONE, NONE, NONE}, {10, NONE, NONE}, {10, 20, NONE}, {10, 20, 20}};
        for (int n = 0; n < 4; n++) {
            for (int q = 0; q < 3; q++) {
                c.due("best(" + n + ", " + q + ")", x.best(n, q), due[n][q]);
            }
        }
        c.due("n", x.best(-1, 0), OUTSIDE);
        c.due("n", x.best(4, 0), OUTSIDE);
        c.due("q", x.best(0, -1), OUTSIDE);
        c.due("q", x.best(0, 3), OUTSIDE);
        c.due("outside goes ahead", new HourRehearsal().best(4, 0), OUTSIDE);
        c.due("no piece", new HourRehearsal().best(0, 0), STATE);
        x = Desk.with("c60;p9110;p9110");
        x.sure(0, 10);
        x.sure(1, 10);
        c.due("a run is better", x.best(1, 0), 20);
        x = Desk.with("c60;p7190");
        c.due("quick ahead of slow", x.best(3, 0), 0);
        c.due("the fewest steps", x.best(3, 1), NONE);
        x.sure(0, 10);
        c.due("no step is as good", x.best(3, 0), NONE);
        x = Desk.with("c60;p0190;p0190");
        x.minutes(5);
        c.due("two of nothing", x.best(1, 0), NONE);
        c.due("both slow", x.best(2, 0), 10);
        c.due("both slow", x.best(2, 1), 11);
        c.due("and one quick", x.best(3, 0), 0);
        c.due("and one quick", x.best(3, 1), 10);
        c.due("and one quick", x.best(3, 2), 11);
        x = Desk.with("c60;p5111;k5110");
        c.due("first what can be", x.best(2, 0), 11);
        c.due("then", x.best(2, 1), 20);
    }

    private static void top() {
        c.about("11 top");
        HourRehearsal x = Desk.with(Desk.FOUR);
        long[][] due = {{9, 2500}, {27, 2500}, {9261, 312500}, {19683, 312500}};
        for (int n = 0; n < 4; n++) {
            c.due("top(" + n + ", 0)", x.top(n, 0), due[n][0]);
            c.due("top(" + n + ", 1)", x.top(n, 1), due[n][1]);
        }
        c.due("n", x.top(-1, 0), LOST);
        c.due("n", x.top(4, 0), LOST);
        c.due("which", x.top(0, -1), LOST);
        c.due("which", x.top(0, 2), LOST);
        c.due("no piece", new HourRehearsal().top(0, 0), LOST);
        x = Desk.with("c05;p0910");
        c.due("nothing can be", x.top(3, 0), 0);
        c.due("of one", x.top(3, 1), 1);
        x.put(1, 0, 0);
        x.fault();
        x.top(9, 9);
        c.due("fault stays", x.fault(), 1);
    }

    private static void soonest() {
        c.about("12 soonest");
        HourRehearsal x = Desk.with(Desk.FOUR);
        c.due("it is", x.soonest(0, 3), 0);
        c.due("once quick", x.soonest(0, 4), 5);
        c.due("twice", x.soonest(0, 7), 10);
        c.due("ten", x.soonest(0, 10), 15);
        c.due("as if its from were 0", x.soonest(1, 8), 4);
        c.due("slow, as lips bear it once", x.soonest(1, 10), 8);
        c.due("by none", x.soonest(2, 5), NONE);
        c.due("no place", x.soonest(4, 11), UNKNOWN);
        c.due("v", x.soonest(0, -1), OUTSIDE);
        c.due("v", x.soonest(0, 11), OUTSIDE);
        c.due("no piece", new HourRehearsal().soonest(0, 0), UNKNOWN);
        x = Desk.with("c05;h0990");
        c.due("as if there were minutes", x.soonest(0, 5), 45);
        c.due("three times slow", x.soonest(0, 6), 54);
        c.due("a break is worth it", x.soonest(0, 7), 78);
        c.due("five at most", x.soonest(0, 8), 87);
        c.due("nine is too much", x.soonest(0, 9), NONE);
    }

    private static void luck() {
        c.about("13 luck");
        HourRehearsal x = new HourRehearsal();
        long[][] due = {{0, 0, 1, 2}, {1, 0, 7, 10}, {0, 1, 3, 10}, {3, 2, 577, 1010}, {6, 6, 1, 2},
            {6, 0, 65747, 71942}, {0, 6, 6195, 71942}, {1, 1, 1, 2}};
        for (long[] row : due) {
            int a = (int) row[0];
            int b = (int) row[1];
            c.due("luck(" + a + ", " + b + ", 0)", x.luck(a, b, 0), row[2]);
            c.due("luck(" + a + ", " + b + ", 1)", x.luck(a, b, 1), row[3]);
        }
        c.due("a", x.luck(-1, 0, 0), LOST);
        c.due("a", x.luck(7, 0, 0), LOST);
        c.due("b", x.luck(0, -1, 0), LOST);
        c.due("b", x.luck(0, 7, 0), LOST);
        c.due("which", x.luck(0, 0, -1), LOST);
        c.due("which", x.luck(0, 0, 2), LOST);
    }

    private static void reading() {
        c.about("14 reading");
        HourRehearsal x = Desk.with(Desk.FOUR);
        for (int r = 0; r < 8; r++) {
            c.due("number", x.reading(r % 4, r), r);
        }
        c.due("full", x.reading(0, 10), FULL);
        c.due("unknown ahead of full", x.reading(4, 11), UNKNOWN);
        c.due("outside ahead of full", x.reading(0, 11), OUTSIDE);
        c.due("outside", x.reading(0, -1), OUTSIDE);
        c.due("eight", x.many(3), 8);
        c.due("no piece", new HourRehearsal().reading(0, 0), UNKNOWN);
    }

    private static void back() {
        c.about("15 back");
        HourRehearsal x = Desk.with(Desk.FOUR);
        x.reading(0, 6);
        x.reading(3, 8);
        x.reading(0, 0);
        c.due("too many", x.back(4), OUTSIDE);
        c.due("below", x.back(-1), OUTSIDE);
        c.due("none", x.back(0), 3);
        c.due("none fits", x.plans(1, -1), 0);
        c.due("the last", x.back(1), 2);
        c.due("one fits", x.plans(1, -1), 1);
        c.due("all", x.back(2), 0);
        c.due("a new one's number", x.reading(0, 3), 0);
        c.due("no piece", new HourRehearsal().back(0), 0);
    }

    private static void plans() {
        c.about("16 plans");
        HourRehearsal x = Desk.with(Desk.FOUR);
        c.due("all of none", x.plans(0, -1), 1);
        c.due("all of one", x.plans(1, -1), 7);
        c.due("the first has no step", x.plans(1, 0), NONE);
        x.reading(0, 6);
        c.due("of none", x.plans(0, -1), 0);
        c.due("there are none", x.plans(0, 0), NONE);
        c.due("of one", x.plans(1, -1), 1);
        c.due("of two", x.plans(2, -1), 9);
        c.due("its step", x.plans(2, 0), 0);
        c.due("its next step", x.plans(2, 1), NONE);
        x.reading(3, 10);
        c.due("both", x.plans(2, -1), 4);
        c.due("the first as a row", x.plans(2, 0), 0);
        c.due("the first as a row", x.plans(2, 1), 3);
        c.due("the first as a row", x.plans(3, 2), NONE);
        x.reading(3, 9);
        c.due("a place can't be both", x.plans(3, -1), 0);
        c.due("n", x.plans(-1, 0), OUTSIDE);
        c.due("n", x.plans(4, 0), OUTSIDE);
        c.due("q", x.plans(0, -2), OUTSIDE);
        c.due("q", x.plans(0, 3), OUTSIDE);
        c.due("outside goes ahead", new HourRehearsal().plans(4, 0), OUTSIDE);
        c.due("no piece", new HourRehearsal().plans(0, -1), STATE);
        x = Desk.with("c60;p0110;p0110;p0110;p0110;p0110;p0110");
        c.due("as many as can be", x.plans(3, -1), 1 + 14 + 14 * 14 + 14 * 14 * 14);
        for (int k = 0; k < 6; k++) {
            x.reading(k, 3);
            c.due("quick", x.plans(1, -1), 1);
            c.due("quick", x.plans(1, 0), k);
            x.back(1);
            x.reading(k, 6);
            c.due("slow", x.plans(1, -1), 1);
            c.due("slow", x.plans(1, 0), 10 + k);
            x.back(1);
        }
        x.reading(5, 3);
        c.due("the best is looked for", x.best(1, 0), NONE);
        c.due("what was seen is looked for again", x.plans(1, 0), 5);
        x = Desk.with("c16;p0111");
        x.reading(0, 3);
        c.due("a break, then it can be", x.plans(2, -1), 1);
        c.due("a break, then it can be", x.plans(2, 0), 21);
        c.due("a break, then it can be", x.plans(2, 1), 0);
    }

    private static void kinds() {
        c.about("17 kinds");
        HourRehearsal x = Desk.with(Desk.FOUR);
        c.due("nothing was seen", Desk.kinds(x, 0, 0), 7);
        x.reading(0, 6);
        c.due("a plain one", Desk.kinds(x, 0, 0), 1);
        c.due("its own stays", x.ofPlace(0, 0), 0);
        c.due("another place", Desk.kinds(x, 3, 0), 7);
        c.due("another place, none", Desk.kinds(x, 3, 10), 0);
        x.back(1);
        x.reading(0, 5);
        c.due("knotty quick, high slow", Desk.kinds(x, 0, 0), 2);
        c.due("knotty quick, high slow", Desk.kinds(x, 0, 10), 4);
        x.back(1);
        x.reading(3, 10);
        c.due("ten at most", Desk.kinds(x, 3, 13), 7);
        c.due("ten at most", Desk.kinds(x, 3, 3), 3);
        c.due("a first wrong", Desk.kinds(x, 3, 3, 1), -101);
        c.due("place ahead of all", x.kinds(4, 9, 9, 9, 99), UNKNOWN);
        c.due("place", x.kinds(-1, 1, 2, 0, 1), UNKNOWN);
        c.due("fault", x.fault(), 0);
        c.due("sheet", x.kinds(0, 4, 9, 0, 1), UNKNOWN);
        c.due("lane", x.kinds(0, 1, 3, 0, 1), OUTSIDE);
        c.due("n", x.kinds(0, 1, 2, 0, 21), OUTSIDE);
        c.due("cast", x.kinds(0, 1, 1, 0, 1), CAST);
        c.due("fault", x.fault(), 2);
        c.due("place takes the fault back", x.kinds(4, 1, 1, 0, 1), UNKNOWN);
        c.due("fault", x.fault(), 0);
        c.due("null", x.kinds(0, 3, 1, 0, 1), NULL);
        c.due("index", x.kinds(0, 1, 2, 0, 3), INDEX);
        c.due("a step", Desk.kinds(x, 3, 8), UNKNOWN);
    }

    private static void sheet() {
        c.about("18 sheet");
        HourRehearsal x = new HourRehearsal();
        c.due("row", x.sheet(0, 0, 60), 1);
        c.due("put", x.put(0, 59, 7), 1);
        c.due("made anew", x.sheet(0, 1, 60), 1);
        c.due("zero", x.cell(0, 59, 1), 0);
        c.due("none", x.sheet(3, 2, 0), 1);
        c.due("it has no cell", x.put(3, 0, 1), INDEX);
        c.due("sheet", x.sheet(4, 9, -1), UNKNOWN);
        c.due("sheet", x.sheet(-1, 0, 1), UNKNOWN);
        c.due("lane", x.sheet(0, 3, -1), OUTSIDE);
        c.due("lane", x.sheet(0, -1, 1), OUTSIDE);
        c.due("n", x.sheet(0, 0, 61), OUTSIDE);
        c.due("size", x.sheet(0, 0, -1), SIZE);
        c.due("fault", x.fault(), 4);
        c.due("size", x.sheet(0, 0, SMALL), SIZE);
        c.due("it stays", x.cell(0, 59, 1), 0);
    }

    private static void lose() {
        c.about("19 lose");
        HourRehearsal x = new HourRehearsal();
        x.sheet(2, 0, 1);
        c.due("had", x.lose(2), 1);
        c.due("had nothing", x.lose(2), 0);
        c.due("put", x.put(2, 0, 1), NULL);
        c.due("sheet", x.lose(4), UNKNOWN);
        c.due("sheet", x.lose(-1), UNKNOWN);
        c.due("fault stays", x.fault(), 1);
        x.sheet(2, 1, 0);
        c.due("a row of none is a row", x.lose(2), 1);
        Desk.take(x, Desk.FOUR);
        x.lose(0);
        c.due("the piece stays", x.many(0), 4);
    }

    private static void put() {
        c.about("20 put");
        HourRehearsal x = new HourRehearsal();
        int[] values = {0, 127, 128, -128, -129, 255, 32767, 32768, -32769, 65535, BIG, SMALL};
        for (int lane = 0; lane <= 2; lane++) {
            x.sheet(lane, lane, 2);
            for (int v : values) {
                c.due("put", x.put(lane, 1, v), 1);
                long want = lane == 0 ? (byte) v : lane == 1 ? (short) v : v;
                c.due("cell " + v + " of lane " + lane, x.cell(lane, 1, lane), want);
                c.due("the cell beside it", x.cell(lane, 0, lane), 0);
            }
        }
        c.due("sheet", x.put(4, 9, 0), UNKNOWN);
        c.due("sheet", x.put(-1, 0, 0), UNKNOWN);
        c.due("null", x.put(3, -1, 0), NULL);
        c.due("fault", x.fault(), 1);
        c.due("index", x.put(0, -1, 0), INDEX);
        c.due("index", x.put(0, 2, 0), INDEX);
        c.due("fault", x.fault(), 3);
        c.due("put", x.put(0, 0, 0), 1);
        c.due("fault", x.fault(), 0);
    }

    private static void cell() {
        c.about("21 cell");
        HourRehearsal x = new HourRehearsal();
        x.sheet(0, 1, 3);
        x.put(0, 2, -5);
        c.due("cell", x.cell(0, 2, 1), -5);
        c.due("fault", x.fault(), 0);
        long[][] wrong = {{0, -1, 0, 2}, {1, -1, 0, 1}, {0, -1, 1, 3}, {0, 3, 1, 3}, {4, 0, 1, 0}, {-1, 0, 1, 0},
            {0, 0, 3, 0}, {0, 0, -1, 0}, {1, 0, 3, 0}, {0, BIG, 1, 3}, {0, SMALL, 1, 3}};
        for (long[] row : wrong) {
            x.put(1, 0, 0);
            c.due("lost", x.cell((int) row[0], (int) row[1], (int) row[2]), LOST);
            c.due("fault", x.fault(), row[3]);
        }
    }

    private static void copy() {
        c.about("22 copy");
        HourRehearsal x = new HourRehearsal();
        x.sheet(0, 2, 5);
        x.sheet(1, 2, 3);
        x.sheet(2, 0, 3);
        for (int i = 0; i < 5; i++) {
            x.put(0, i, 1000 + i);
        }
        c.due("to another", x.copy(0, 1, 1, 0, 3), 3);
        for (int i = 0; i < 3; i++) {
            c.due("there", x.cell(1, i, 2), 1001 + i);
        }
        c.due("up in the same", x.copy(0, 0, 0, 1, 4), 4);
        int[] up = {1000, 1000, 1001, 1002, 1003};
        for (int i = 0; i < 5; i++) {
            c.due("as they were", x.cell(0, i, 2), up[i]);
        }
        c.due("down in the same", x.copy(0, 1, 0, 0, 4), 4);
        int[] down = {1000, 1001, 1002, 1003, 1003};
        for (int i = 0; i < 5; i++) {
            c.due("as they were", x.cell(0, i, 2), down[i]);
        }
        c.due("none", x.copy(0, 5, 1, 3, 0), 0);
        c.due("sheet", x.copy(4, 0, 3, 0, -1), UNKNOWN);
        c.due("other sheet", x.copy(3, 0, 4, 0, -1), UNKNOWN);
        c.due("other sheet", x.copy(3, 0, -1, 0, -1), UNKNOWN);
        c.due("null first", x.copy(3, 0, 0, 0, -1), NULL);
        c.due("null other", x.copy(2, 0, 3, 0, -1), NULL);
        c.due("cast", x.copy(0, -1, 2, 0, -1), CAST);
        c.due("fault", x.fault(), 2);
        int[][] wrong = {{-1, 0, 1}, {0, -1, 1}, {0, 0, -1}, {3, 0, 3}, {0, 1, 3}, {6, 0, 0}, {0, 4, 0},
            {BIG, 0, 1}, {0, BIG, 1}, {1, 1, BIG}, {SMALL, 0, 1}, {0, 0, SMALL}};
        for (int[] row : wrong) {
            c.due("index", x.copy(0, row[0], 1, row[1], row[2]), INDEX);
            c.due("fault", x.fault(), 3);
        }
        c.due("nothing changed", x.cell(1, 0, 2), 1001);
    }

    private static void tellAndTrace() {
        c.about("23 tell, 26 trace");
        HourRehearsal x = Desk.with(Desk.FOUR);
        c.due("plain", x.tell(0), 5);
        int trace = 1;
        c.due("trace", x.trace(), trace);
        c.due("knotty", x.tell(1), 104);
        trace = (trace * 31 + 2) * 31 + 1;
        c.due("trace", x.trace(), trace);
        c.due("high", x.tell(2), 104);
        trace = (((trace * 31 + 3) * 31 + 2) * 31 + 1) * 31 + 1;
        c.due("trace", x.trace(), trace);
        c.due("no place", x.tell(4), UNKNOWN);
        c.due("no place", x.tell(-1), UNKNOWN);
        c.due("trace stays", x.trace(), trace);
        for (int i = 0; i < 20; i++) {
            x.tell(0);
            trace = trace * 31 + 1;
            c.due("it wraps", x.trace(), trace);
        }
        x = Desk.with("c60;h0710");
        c.due("high of 7", x.tell(0), 114);
    }

    private static void hum() {
        c.about("24 hum");
        HourRehearsal x = Desk.with(Desk.FOUR);
        c.due("plain", x.hum(0), 0);
        c.due("trace", x.trace(), 4);
        c.due("knotty", x.hum(1), 1);
        c.due("trace", x.trace(), 4 * 31 + 4);
        c.due("high", x.hum(2), 30);
        c.due("trace", x.trace(), (4 * 31 + 4) * 31 + 5);
        c.due("plain", x.hum(3), 3);
        int trace = x.trace();
        c.due("no place", x.hum(4), UNKNOWN);
        c.due("no place", x.hum(-1), UNKNOWN);
        c.due("trace stays", x.trace(), trace);
    }

    private static void as() {
        c.about("25 as");
        HourRehearsal x = Desk.with(Desk.FOUR);
        int[][] due = {{1, CAST, CAST}, {1, 1, CAST}, {1, 1, 1}};
        for (int k = 0; k < 3; k++) {
            for (int kind = 0; kind < 3; kind++) {
                c.due("as(" + k + ", " + kind + ")", x.as(k, kind), due[k][kind]);
                c.due("fault", x.fault(), due[k][kind] == 1 ? 0 : 2);
            }
        }
        c.due("kind", x.as(0, -1), OUTSIDE);
        c.due("kind", x.as(0, 3), OUTSIDE);
        c.due("place", x.as(4, 3), UNKNOWN);
        c.due("place", x.as(-1, 0), UNKNOWN);
    }

    private static void fault() {
        c.about("27 fault");
        HourRehearsal x = Desk.with(Desk.FOUR);
        x.put(3, 0, 0);
        c.due("null", x.fault(), 1);
        c.due("asked again", x.fault(), 1);
        x.ofPlace(9, 9);
        x.sure(9, 9);
        x.minutes(9);
        x.best(1, 0);
        x.top(9, 9);
        x.soonest(0, 0);
        x.luck(0, 0, 0);
        x.reading(0, 0);
        x.back(1);
        x.plans(1, 0);
        x.lose(9);
        x.tell(0);
        x.hum(0);
        x.trace();
        x.many(0);
        c.due("calls that name none", x.fault(), 1);
        x.put(9, 0, 0);
        c.due("refused", x.fault(), 0);
        for (int call = 0; call < 10; call++) {
            x.put(3, 0, 0);
            c.due("null", x.fault(), 1);
            refuse(x, call);
            c.due("refused by call " + call, x.fault(), 0);
        }
    }

    private static void refuse(HourRehearsal x, int call) {
        switch (call) {
            case 0: x.piece(9, 0, 0, 0); break;
            case 1: x.plan(9, 0, 0, 0, 0); break;
            case 2: x.right(9, 0, 0, 0, 0); break;
            case 3: x.worse(9, 0, 0, 0); break;
            case 4: x.worth(9, 0, 0, 1, 0); break;
            case 5: x.kinds(9, 0, 0, 0, 0); break;
            case 6: x.sheet(9, 0, 0); break;
            case 7: x.cell(9, 0, 0); break;
            case 8: x.copy(9, 0, 0, 0, 0); break;
            default: x.as(9, 0); break;
        }
    }

    private static void many() {
        c.about("28 many");
        HourRehearsal x = Desk.with(Desk.FOUR);
        x.reading(0, 0);
        int[] due = {4, 3, 60, 1};
        for (int what = 0; what < 4; what++) {
            c.due("many(" + what + ")", x.many(what), due[what]);
        }
        c.due("what", x.many(-1), OUTSIDE);
        c.due("what", x.many(4), OUTSIDE);
        Desk.take(x, "c30;p5110");
        c.due("no joins", x.many(1), 0);
        c.due("what without a piece", new HourRehearsal().many(4), OUTSIDE);
    }
}

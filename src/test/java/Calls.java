import java.util.List;

/** The calls of the face, by number in the document's order, or told as text: "plan(1, 2, 0, 3, 10)". */
final class Calls {
    static final List<String> NAMES = List.of("piece", "ofPlace", "sure", "minutes", "plan", "right", "worse", "worth",
        "best", "top", "soonest", "luck", "reading", "back", "plans", "kinds", "sheet", "lose", "put", "cell", "copy",
        "tell", "hum", "as", "trace", "fault", "many");

    private Calls() {
    }

    static long answer(HourRehearsal x, String call) {
        int open = call.indexOf('(');
        String told = call.substring(open + 1, call.indexOf(')'));
        String[] words = told.isEmpty() ? new String[0] : told.split(", ");
        int[] numbers = new int[words.length];
        for (int i = 0; i < words.length; i++) {
            numbers[i] = Integer.parseInt(words[i]);
        }
        return answer(x, NAMES.indexOf(call.substring(0, open)), numbers);
    }

    static long answer(HourRehearsal x, int c, int... a) {
        switch (c) {
            case 0: return x.piece(a[0], a[1], a[2], a[3]);
            case 1: return x.ofPlace(a[0], a[1]);
            case 2: return x.sure(a[0], a[1]);
            case 3: return x.minutes(a[0]);
            case 4: return x.plan(a[0], a[1], a[2], a[3], a[4]);
            case 5: return x.right(a[0], a[1], a[2], a[3], a[4]);
            case 6: return x.worse(a[0], a[1], a[2], a[3]);
            case 7: return x.worth(a[0], a[1], a[2], a[3], a[4]);
            case 8: return x.best(a[0], a[1]);
            case 9: return x.top(a[0], a[1]);
            case 10: return x.soonest(a[0], a[1]);
            case 11: return x.luck(a[0], a[1], a[2]);
            case 12: return x.reading(a[0], a[1]);
            case 13: return x.back(a[0]);
            case 14: return x.plans(a[0], a[1]);
            case 15: return x.kinds(a[0], a[1], a[2], a[3], a[4]);
            case 16: return x.sheet(a[0], a[1], a[2]);
            case 17: return x.lose(a[0]);
            case 18: return x.put(a[0], a[1], a[2]);
            case 19: return x.cell(a[0], a[1], a[2]);
            case 20: return x.copy(a[0], a[1], a[2], a[3], a[4]);
            case 21: return x.tell(a[0]);
            case 22: return x.hum(a[0]);
            case 23: return x.as(a[0], a[1]);
            case 24: return x.trace();
            case 25: return x.fault();
            case 26: return x.many(a[0]);
            default: throw new IllegalArgumentException("there is no call " + c);
        }
    }
}

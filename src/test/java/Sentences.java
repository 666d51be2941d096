import java.io.IOException;
import java.nio.file.Files;
import java.nio.file.Path;
import java.util.BitSet;

/**
 * The document's sentences, each told word for word ahead of the calls that show it: words that the
 * document doesn't have, and words of its terms and promises that no test has told, count as wrong.
 */
final class Sentences {
    private static final Path DOCUMENT = Path.of("../shared/DOC.md");
    private static final String PREFACE = "## What it is ";
    private static final String TERMS = "## Terms ";
    private static final int PROMISES = 28;

    private final Checks checks;
    private final String document;
    private final BitSet told = new BitSet();
    private int madeAhead = -1;

    Sentences(Checks checks) throws IOException {
        this.checks = checks;
        this.document = Files.readString(DOCUMENT).replaceAll("```(text)?|\\s+", " ").replaceAll(" +", " ");
    }

    /** What follows shows this sentence of the words ahead of all others. */
    void preface(String words) {
        tell(PREFACE, words);
    }

    /** What follows shows this sentence of the terms. */
    void terms(String words) {
        tell(TERMS, words);
    }

    /** What follows shows this sentence of a promise. */
    void promise(int number, String words) {
        tell(headingOf(number), words);
    }

    void end() {
        checkThatCallsFollowed();
        checkThatAllIsTold(TERMS);
        for (int number = 1; number <= PROMISES; number++) {
            checkThatAllIsTold(headingOf(number));
        }
    }

    private static String headingOf(int promise) {
        return "## Promise " + promise + ": ";
    }

    private void tell(String heading, String words) {
        checkThatCallsFollowed();
        checks.about(heading.substring(3) + "'" + words + "'");
        int from = document.indexOf(heading);
        int at = document.indexOf(words, Math.max(from, 0));
        boolean isThere = from >= 0 && at >= 0 && at + words.length() <= endOf(from);
        checks.that("the document says so", isThere);
        if (isThere) {
            told.set(at, at + words.length());
        }
        madeAhead = checks.made();
    }

    private void checkThatCallsFollowed() {
        checks.that("calls show it", checks.made() > madeAhead);
    }

    /** The remarks on the interface belong to no section. */
    private int endOf(int from) {
        int heading = document.indexOf(" ## ", from);
        int remarks = document.indexOf(" Ahead of the calls ", from);
        int end = heading < 0 ? document.length() : heading;
        return remarks < 0 ? end : Math.min(end, remarks);
    }

    private void checkThatAllIsTold(String heading) {
        checks.about(heading.substring(3) + "is told whole");
        int from = document.indexOf(heading);
        checks.that("it is there", from >= 0);
        int end = endOf(from);
        int signature = document.indexOf("`: ", from);
        int at = signature < 0 || signature > end ? from + heading.length() : signature;
        while (at < end) {
            int next = Math.min(end, told.get(at) ? told.nextClearBit(at) : nextTold(at));
            String words = document.substring(at, next);
            checks.that("told: " + words, told.get(at) || !words.matches(".*[A-Za-z0-9].*"));
            at = next;
        }
    }

    private int nextTold(int at) {
        int next = told.nextSetBit(at);
        return next < 0 ? document.length() : next;
    }
}

import java.io.IOException;
import java.nio.file.Files;
import java.nio.file.Path;
import java.util.ArrayList;
import java.util.List;
import java.util.regex.Matcher;
import java.util.regex.Pattern;

/** The public face and the remarks on it, as the document tells them. */
final class Face {
    private static final Path DOCUMENT = Path.of("../shared/DOC.md");

    private final String document;

    Face() throws IOException {
        document = Files.readString(DOCUMENT);
    }

    /** The lines of the document's Java block, in their order, without their semicolons. */
    List<String> declarations() {
        return found(Pattern.compile("^ +(public .*);$", Pattern.MULTILINE));
    }

    /** The calls as the promises' first words tell them: "int piece(int sheet, int lane, int i, int n)". */
    List<String> promised() {
        return found(Pattern.compile("^`((?:int|long) \\w+\\([^)]*\\))`: ", Pattern.MULTILINE));
    }

    /** "`piece`, `ofPlace`, `sure`, `minutes`", for each part. */
    List<String> partsCalls() {
        return found(Pattern.compile("^Ahead of the calls (.*) the interface says: ", Pattern.MULTILINE));
    }

    /** "---- 1 the piece", for each part. */
    List<String> partsRemarks() {
        return found(Pattern.compile("the interface says: (---- .*)\\.$", Pattern.MULTILINE));
    }

    private List<String> found(Pattern pattern) {
        List<String> all = new ArrayList<>();
        Matcher matcher = pattern.matcher(document);
        while (matcher.find()) {
            all.add(matcher.group(1));
        }
        return all;
    }
}

import java.io.IOException;
import java.lang.reflect.Constructor;
import java.lang.reflect.Field;
import java.lang.reflect.Method;
import java.lang.reflect.Modifier;
import java.nio.file.Files;
import java.nio.file.Path;
import java.util.List;
import java.util.Set;
import java.util.TreeSet;
import java.util.regex.Matcher;
import java.util.regex.Pattern;

/** The public face, and the rules of LANGUAGE.md that can be seen without running anything. */
public final class FaceTest {
    private static final String SOURCE = "src/main/java/HourRehearsal.java";
    private static final String[] METHODS = {"int piece 4", "int ofPlace 2", "int sure 2", "int minutes 1",
        "int plan 5", "long right 5", "int worse 4", "long worth 5", "int best 2", "long top 2", "int soonest 2",
        "long luck 3", "int reading 2", "int back 1", "int plans 2", "int kinds 5", "int sheet 3", "int lose 1",
        "int put 3", "long cell 3", "int copy 5", "int tell 1", "int hum 1", "int as 2", "int trace 0",
        "int fault 0", "int many 1"};
    private static final String[] CONSTANTS = {"int UNKNOWN", "int OUTSIDE", "int STATE", "int FULL", "int NONE",
        "long LOST"};
    private static final String[] FORBIDDEN_WORDS = {"throw", "throws", "try", "catch", "finally", "synchronized",
        "assert", "System.out", "System.err", "System.nanoTime", "System.currentTimeMillis", "Random", "Thread",
        "Exact", "hashCode", "toString", "equals", "native", "volatile", "transient", "protected", "package"};
    private static final int MOST_LINES_OF_METHOD = 60;

    private static final Checks c = new Checks("FaceTest");

    public static void main(String[] args) throws Exception {
        constants();
        members();
        nested();
        String whole = Files.readString(Path.of(SOURCE));
        asDeclared(whole);
        asPromised();
        remarks(whole);
        String source = withoutComments(whole);
        words(source);
        lengths(source);
        madeOnce(source);
        c.end();
    }

    private static void constants() {
        c.about("constants");
        c.due("UNKNOWN", HourRehearsal.UNKNOWN, -1);
        c.due("OUTSIDE", HourRehearsal.OUTSIDE, -2);
        c.due("STATE", HourRehearsal.STATE, -3);
        c.due("FULL", HourRehearsal.FULL, -4);
        c.due("NONE", HourRehearsal.NONE, -9);
        c.due("LOST", HourRehearsal.LOST, Long.MIN_VALUE);
    }

    private static void members() {
        c.about("members");
        Class<?> face = HourRehearsal.class;
        c.that("public and final", Modifier.isPublic(face.getModifiers()) && Modifier.isFinal(face.getModifiers()));
        Set<String> found = new TreeSet<>();
        Set<String> hidden = new TreeSet<>();
        for (Method m : face.getDeclaredMethods()) {
            if (Modifier.isPrivate(m.getModifiers())) {
                hidden.add(m.getName());
            } else {
                c.that(m + " is public, of the object", m.getModifiers() == Modifier.PUBLIC);
                found.add(m.getReturnType() + " " + m.getName() + " " + m.getParameterCount());
            }
        }
        c.that("the methods of the document: " + found, found.equals(new TreeSet<>(Set.of(METHODS))));
        for (String name : hidden) {
            c.that("private " + name + " bears no public name", !isOfFace(name));
        }
        found.clear();
        for (Field f : face.getDeclaredFields()) {
            if (Modifier.isPrivate(f.getModifiers())) {
                continue;
            }
            c.that(f + " is a constant", f.getModifiers() == (Modifier.PUBLIC | Modifier.STATIC | Modifier.FINAL));
            found.add(f.getType() + " " + f.getName());
        }
        c.that("the constants of the document: " + found, found.equals(new TreeSet<>(Set.of(CONSTANTS))));
        Constructor<?>[] made = face.getDeclaredConstructors();
        c.that("one constructor", made.length == 1 && made[0].getParameterCount() == 0);
        c.that("a public one", made.length == 1 && Modifier.isPublic(made[0].getModifiers()));
    }

    /** The document's lines stand in the source, in the document's order. */
    private static void asDeclared(String source) throws IOException {
        c.about("as the document declares it");
        List<String> declarations = new Face().declarations();
        int linesOfConstants = 2;
        int constructors = 1;
        c.due("lines", declarations.size(), linesOfConstants + constructors + METHODS.length);
        int at = 0;
        for (String declaration : declarations) {
            int next = source.indexOf("    " + declaration + (declaration.endsWith(")") ? " {\n" : ";\n"), at);
            c.that(declaration + " stands there", next >= 0);
            at = Math.max(next, at);
        }
    }

    private static void asPromised() throws IOException {
        c.about("as the promises tell it");
        Face face = new Face();
        List<String> promised = face.promised();
        c.due("calls", promised.size(), METHODS.length);
        for (String call : promised) {
            c.that(call + " is declared", face.declarations().contains("public " + call));
        }
    }

    /** Each part's remark stands right ahead of its calls. */
    private static void remarks(String source) throws IOException {
        c.about("remarks");
        Face face = new Face();
        List<String> remarks = face.partsRemarks();
        List<String> calls = face.partsCalls();
        c.due("parts", remarks.size(), 5);
        c.due("parts", calls.size(), 5);
        for (int part = 0; part < Math.min(remarks.size(), calls.size()); part++) {
            int begin = source.indexOf("// " + remarks.get(part) + "\n");
            int end = source.indexOf("// ---- ", begin + 1);
            c.that(remarks.get(part) + " stands there", begin >= 0 && end > begin);
            String told = begin >= 0 && end > begin ? source.substring(begin, end) : "";
            for (String name : calls.get(part).replace("`", "").split(", ")) {
                c.that(name + " behind " + remarks.get(part), told.matches("(?s).*\\n    public (int|long) " + name + "\\(.*"));
            }
        }
    }

    private static void nested() {
        c.about("classes inside");
        Class<?>[] inside = HourRehearsal.class.getDeclaredClasses();
        c.that("at most twelve classes", inside.length + 1 <= 12);
        for (Class<?> one : inside) {
            c.that(one + " is static", Modifier.isStatic(one.getModifiers()));
            c.that(one + " is not public", !Modifier.isPublic(one.getModifiers()));
            int fields = 0;
            for (Field f : one.getDeclaredFields()) {
                fields += Modifier.isStatic(f.getModifiers()) ? 0 : 1;
                c.that(f + " is final, if static", !Modifier.isStatic(f.getModifiers()) || Modifier.isFinal(f.getModifiers()));
            }
            c.that(one + " has at most twenty fields", fields <= 20);
            for (Method m : one.getDeclaredMethods()) {
                c.that(m + " bears no public name", !isOfFace(m.getName()));
                c.that(m + " has at most seven parameters", m.getParameterCount() <= 7);
            }
        }
    }

    private static boolean isOfFace(String name) {
        for (String told : METHODS) {
            if (told.split(" ")[1].equals(name)) {
                return true;
            }
        }
        return false;
    }

    private static String withoutComments(String source) {
        return source.replaceAll("(?s)/\\*.*?\\*/", " ").replaceAll("//[^\n]*", " ");
    }

    private static void words(String source) {
        c.about("words");
        for (String word : FORBIDDEN_WORDS) {
            boolean is = Pattern.compile("\\b" + Pattern.quote(word) + "\\b").matcher(source).find();
            c.that("no " + word, !is);
        }
        c.that("no lambda", !source.contains("->"));
        c.that("no method reference", !source.contains("::"));
        Matcher imports = Pattern.compile("import ([^;]*);").matcher(source);
        while (imports.find()) {
            c.that(imports.group(1) + " is listed", Set.of("java.util.Arrays").contains(imports.group(1)));
        }
        c.that("nothing but ASCII", source.chars().allMatch(sign -> sign < 128));
    }

    /** All is made with the object: in constructors, and where final fields are told. */
    private static void madeOnce(String source) {
        c.about("made once");
        boolean isInConstructor = false;
        for (String line : source.split("\n")) {
            if (isHead(line)) {
                isInConstructor = line.matches(" +(public )?[A-Z]\\w*\\(\\) \\{");
            }
            boolean isFinalField = line.matches("( {4}| {8})(private )?final .*");
            c.that(line.trim() + " makes nothing anew", isInConstructor || isFinalField || !line.matches(".*\\bnew\\b.*"));
        }
    }

    /** A method or constructor begins at a line with four or eight blanks and an open brace. */
    private static boolean isHead(String line) {
        return line.matches("( {4}| {8})(?!for |if |while |switch )[^ }].*\\) \\{");
    }

    /** A method ends at its brace. */
    private static void lengths(String source) {
        c.about("lengths");
        String[] lines = source.split("\n");
        for (int i = 0; i < lines.length; i++) {
            if (!isHead(lines[i])) {
                continue;
            }
            String close = lines[i].replaceAll("[^ ].*", "") + "}";
            int end = i;
            while (end < lines.length && !lines[end].equals(close)) {
                end++;
            }
            c.that(lines[i].trim() + " is short", end - i < MOST_LINES_OF_METHOD);
        }
    }
}

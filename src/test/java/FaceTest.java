import java.lang.reflect.Constructor;
import java.lang.reflect.Field;
import java.lang.reflect.Method;
import java.lang.reflect.Modifier;
import java.nio.file.Files;
import java.nio.file.Path;
import java.util.Set;
import java.util.TreeSet;
import java.util.regex.Matcher;
import java.util.regex.Pattern;

/** The public face, and the rules of LANGUAGE.md that can be seen without running anything. */
public final class FaceTest {
    private static final String SOURCE = "src/main/java/HourRehearsal.java";
    private static final String[] METHODS = {"int piece 4", "int ofPlace 2", "int sure 2", "int minutes 1",
        "int plan 5", "long right 5", "int worse 4", "long worth 5", "int best 2", "long top 2", "int soonest 2",
        "long luck 3", "int reading 2", "int back 1", "int plans 2", "int kinds 5", "int sheet 3", "int lose 1",
        "int put 3", "long cell 3", "int copy 5", "int tell 1", "int hum 1", "int as 2", "int trace 0",
        "int fault 0", "int many 1"};
    private static final String[] CONSTANTS = {"int UNKNOWN", "int OUTSIDE", "int STATE", "int FULL", "int NONE",
        "long LOST"};
    private static final String[] FORBIDDEN_WORDS = {"throw", "throws", "try", "catch", "finally", "synchronized",
        "assert", "System.out", "System.err", "System.nanoTime", "System.currentTimeMillis", "Random", "Thread",
        "Exact", "hashCode", "toString", "equals", "native", "volatile", "transient", "protected", "package"};
    private static final int MOST_LINES_OF_METHOD = 60;

    private static final Checks c = new Checks("FaceTest");

    public static void main(String[] args) throws Exception {
        constants();
        members();
        nested();
        String source = withoutComments(Files.readString(Path.of(SOURCE)));
        words(source);
        lengths(source);
        c.end();
    }

    private static void constants() {
        c.about("constants");
        c.due("UNKNOWN", HourRehearsal.UNKNOWN, -1);
        c.due("OUTSIDE", HourRehearsal.OUTSIDE, -2);
        c.due("STATE", HourRehearsal.STATE, -3);
        c.due("FULL", HourRehearsal.FULL, -4);
        c.due("NONE", HourRehearsal.NONE, -9);
        c.due("LOST", HourRehearsal.LOST, Long.MIN_VALUE);
    }

    private static void members() {
        c.about("members");
        Class<?> face = HourRehearsal.class;
        c.that("public and final", Modifier.isPublic(face.getModifiers()) && Modifier.isFinal(face.getModifiers()));
        Set<String> found = new TreeSet<>();
        Set<String> hidden = new TreeSet<>();
        for (Method m : face.getDeclaredMethods()) {
            if (Modifier.isPrivate(m.getModifiers())) {
                hidden.add(m.getName());
            } else {
                c.that(m + " is public, of the object", m.getModifiers() == Modifier.PUBLIC);
                found.add(m.getReturnType() + " " + m.getName() + " " + m.getParameterCount());
            }
        }
        c.that("the methods of the document: " + found, found.equals(new TreeSet<>(Set.of(METHODS))));
        for (String name : hidden) {
            c.that("private " + name + " bears no public name", !isOfFace(name));
        }
        found.clear();
        for (Field f : face.getDeclaredFields()) {
            if (Modifier.isPrivate(f.getModifiers())) {
                continue;
            }
            c.that(f + " is a constant", f.getModifiers() == (Modifier.PUBLIC | Modifier.STATIC | Modifier.FINAL));
            found.add(f.getType() + " " + f.getName());
        }
        c.that("the constants of the document: " + found, found.equals(new TreeSet<>(Set.of(CONSTANTS))));
        Constructor<?>[] made = face.getDeclaredConstructors();
        c.that("one constructor", made.length == 1 && made[0].getParameterCount() == 0);
        c.that("a public one", made.length == 1 && Modifier.isPublic(made[0].getModifiers()));
    }

    private static void nested() {
        c.about("classes inside");
        Class<?>[] inside = HourRehearsal.class.getDeclaredClasses();
        c.that("at most twelve classes", inside.length + 1 <= 12);
        for (Class<?> one : inside) {
            c.that(one + " is static", Modifier.isStatic(one.getModifiers()));
            c.that(one + " is not public", !Modifier.isPublic(one.getModifiers()));
            int fields = 0;
            for (Field f : one.getDeclaredFields()) {
                fields += Modifier.isStatic(f.getModifiers()) ? 0 : 1;
                c.that(f + " is final, if static", !Modifier.isStatic(f.getModifiers()) || Modifier.isFinal(f.getModifiers()));
            }
            c.that(one + " has at most twenty fields", fields <= 20);
            for (Method m : one.getDeclaredMethods()) {
                c.that(m + " bears no public name", !isOfFace(m.getName()));
                c.that(m + " has at most seven parameters", m.getParameterCount() <= 7);
            }
        }
    }

    private static boolean isOfFace(String name) {
        for (String told : METHODS) {
            if (told.split(" ")[1].equals(name)) {
                return true;
            }
        }
        return false;
    }

    private static String withoutComments(String source) {
        return source.replaceAll("(?s)/\\*.*?\\*/", " ").replaceAll("//[^\n]*", " ");
    }

    private static void words(String source) {
        c.about("words");
        for (String word : FORBIDDEN_WORDS) {
            boolean is = Pattern.compile("\\b" + Pattern.quote(word) + "\\b").matcher(source).find();
            c.that("no " + word, !is);
        }
        c.that("no lambda", !source.contains("->"));
        c.that("no method reference", !source.contains("::"));
        Matcher imports = Pattern.compile("import ([^;]*);").matcher(source);
        while (imports.find()) {
            c.that(imports.group(1) + " is listed", Set.of("java.util.Arrays").contains(imports.group(1)));
        }
        c.that("nothing but ASCII", source.chars().allMatch(sign -> sign < 128));
    }

    /** A method begins at a line with an open brace and four or eight blanks, and ends at its brace. */
    private static void lengths(String source) {
        c.about("lengths");
        String[] lines = source.split("\n");
        for (int i = 0; i < lines.length; i++) {
            boolean begins = lines[i].matches("( {4}| {8})[^ ].*\\) \\{") && !lines[i].contains("class ");
            if (!begins) {
                continue;
            }
            String close = lines[i].replaceAll("[^ ].*", "") + "}";
            int end = i;
            while (end < lines.length && !lines[end].equals(close)) {
                end++;
            }
            c.that(lines[i].trim() + " is short", end - i < MOST_LINES_OF_METHOD);
        }
    }
}

import java.io.File;
import java.io.IOException;
import java.nio.file.Files;
import java.nio.file.Path;
import java.util.regex.Matcher;
import java.util.regex.Pattern;
import javax.tools.JavaCompiler;
import javax.tools.ToolProvider;

/** README.md: its example answers what it says, and it tells each call, each test and how to run them. */
public final class ReadmeTest {
    private static final Path README = Path.of("README.md");
    private static final Path TESTS = Path.of("src/test/java");
    private static final String EXAMPLE = "ReadmeExample";
    private static final Pattern ANSWERED = Pattern.compile("^(x\\.\\w+\\(.*\\)); +// (-?\\d+)(:.*)?$");
    private static final int LEAST_ANSWERS = 15;

    private static final Checks c = new Checks("ReadmeTest");

    private ReadmeTest() {
    }

    public static void main(String[] args) throws Exception {
        String readme = Files.readString(README);
        calls(readme);
        tests(readme);
        example(readme);
        c.end();
    }

    private static void calls(String readme) throws IOException {
        c.about("calls");
        for (String promised : new Face().promised()) {
            String call = promised.replaceAll("\\b(int|long) ", "");
            c.that(call + " has a row", readme.contains("| `" + call + "` |"));
        }
    }

    private static void tests(String readme) {
        c.about("tests");
        c.that("how to run them", readme.contains("\n    .ci/run\n"));
        c.that("the shared ones", readme.contains("../shared/tests"));
        String[] files = TESTS.toFile().list();
        c.that("there are some", files != null && files.length > 0);
        for (String file : files) {
            if (file.endsWith("Test.java") || file.endsWith("Part.java") && !file.equals("Part.java")) {
                c.that(file + " is told", readme.contains("`" + file.replace(".java", "") + "`"));
            }
        }
    }

    private static void example(String readme) throws Exception {
        c.about("example");
        int begin = readme.indexOf("```java\n");
        int end = readme.indexOf("\n```\n", Math.max(begin, 0));
        c.that("there is one", begin >= 0 && end > begin);
        if (begin < 0 || end < begin) {
            return;
        }
        StringBuilder program = new StringBuilder("final class " + EXAMPLE + " {\n static void run(Checks c) {\n");
        int answers = 0;
        for (String line : readme.substring(begin + "```java\n".length(), end).split("\n")) {
            Matcher answered = ANSWERED.matcher(line);
            boolean isAnswered = answered.matches();
            answers += isAnswered ? 1 : 0;
            c.that("an answer is told: " + line, isAnswered || !line.startsWith("x."));
            program.append(isAnswered ? compared(answered.group(1), answered.group(2)) : line).append('\n');
        }
        c.that("it tells answers enough", answers >= LEAST_ANSWERS);
        runProgram(program.append(" }\n}\n").toString());
    }

    private static String compared(String call, String answer) {
        return "c.due(\"" + call + "\", " + call + ", " + answer + "L);";
    }

    private static void runProgram(String program) throws Exception {
        Path folder = Files.createTempDirectory("readme");
        try {
            Path source = folder.resolve(EXAMPLE + ".java");
            Files.writeString(source, program);
            String classes = System.getProperty("java.class.path");
            JavaCompiler compiler = ToolProvider.getSystemJavaCompiler();
            int result = compiler.run(null, null, null, "-cp", classes, "-d", folder.toString(), source.toString());
            c.due("it compiles", result, 0);
            if (result == 0) {
                runClass(Files.readAllBytes(folder.resolve(EXAMPLE + ".class")));
            }
        } finally {
            for (File file : folder.toFile().listFiles()) {
                file.delete();
            }
            folder.toFile().delete();
        }
    }

    /** The example becomes a class beside this one, so that it can use Checks. */
    private static void runClass(byte[] bytes) throws Exception {
        Class<?> example = java.lang.invoke.MethodHandles.lookup().defineClass(bytes);
        example.getDeclaredMethod("run", Checks.class).invoke(null, c);
    }
}

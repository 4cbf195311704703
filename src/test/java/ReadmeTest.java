import java.io.File;
import java.io.IOException;
import java.lang.reflect.Method;
import java.lang.reflect.Modifier;
import java.net.URL;
import java.net.URLClassLoader;
import java.nio.file.Files;
import java.nio.file.Path;
import java.util.ArrayList;
import java.util.List;
import java.util.regex.Matcher;
import java.util.regex.Pattern;
import java.util.stream.Stream;
import javax.tools.ToolProvider;

/** What README.md shows of calls and answers is so: its code is compiled as it stands there, and run. */
public final class ReadmeTest {
    private static final Check CHECK = new Check();
    /** A call as README shows it, and the answer behind it: a number, a boolean, or what is thrown. */
    private static final Pattern SHOWN = Pattern.compile("((?:x\\.|tell\\().*\\)); *// (-?\\d+|true|false|throws (\\w+))(?:: .*)?");
    private static final Pattern UNANSWERED = Pattern.compile("x\\.(forget|image)\\(\\);");
    private static final Pattern MADE = Pattern.compile("LateRingers x = new LateRingers\\(\\);");

    /** README's code asks this, so that wrong answers are counted in one place. */
    public static void shown(String call, Object got, Object want) {
        CHECK.yes("README.md: " + call + " answered " + got + ", due is " + want, want.equals(got));
    }

    private static String quoted(String text) {
        return "\"" + text.replace("\\", "\\\\").replace("\"", "\\\"") + "\"";
    }

    /** A line of README as a line that asks whether it is so. */
    private static String asked(String line) {
        Matcher m = SHOWN.matcher(line);
        if (m.matches()) {
            String call = m.group(1);
            String thrown = m.group(3);
            if (thrown == null) {
                return "ReadmeTest.shown(" + quoted(call) + ", " + call + ", " + m.group(2) + ");";
            }
            return "try { ReadmeTest.shown(" + quoted(call) + ", " + call + ", " + quoted(thrown) + "); } "
                + "catch (RuntimeException e) { ReadmeTest.shown(" + quoted(call) + ", e.getClass().getSimpleName(), "
                + quoted(thrown) + "); }";
        }
        boolean isFine = line.isEmpty() || MADE.matcher(line).matches() || UNANSWERED.matcher(line).matches();
        CHECK.yes("README.md: a line of code without its answer: " + line, isFine);
        return line;
    }

    private static String program(String readme) {
        StringBuilder members = new StringBuilder();
        StringBuilder lines = new StringBuilder();
        Matcher m = Pattern.compile("(?s)```java\n(.*?)```").matcher(readme);
        while (m.find()) {
            if (m.group(1).startsWith("static ")) {
                members.append(m.group(1));
                continue;
            }
            for (String line : m.group(1).split("\n")) {
                lines.append(asked(line)).append('\n');
            }
        }
        return "public final class Shown {\n" + members + "public static void main(String[] args) {\n" + lines + "}\n}\n";
    }

    private static void run(String program) throws IOException, ReflectiveOperationException {
        Path made = Files.createTempDirectory("readme");
        Path source = made.resolve("Shown.java");
        Files.writeString(source, program);
        String classes = System.getProperty("java.class.path");
        int failed = ToolProvider.getSystemJavaCompiler().run(null, null, null, "-cp", classes, "-d", made.toString(), source.toString());
        CHECK.same("README.md's code is compiled", failed, 0);
        if (failed == 0) {
            try (URLClassLoader loader = new URLClassLoader(new URL[] {made.toUri().toURL()}, ReadmeTest.class.getClassLoader())) {
                loader.loadClass("Shown").getMethod("main", String[].class).invoke(null, (Object) new String[0]);
            }
        }
        for (File file : made.toFile().listFiles()) {
            Files.delete(file.toPath());
        }
        Files.delete(made);
    }

    private static void showsEachCall(String program) {
        for (Method m : LateRingers.class.getDeclaredMethods()) {
            if (Modifier.isPublic(m.getModifiers())) {
                CHECK.yes("README.md shows " + m.getName(), program.contains("x." + m.getName() + "("));
            }
        }
    }

    /** The LINEs that README tells about are LINEs. */
    private static void tellsLines(String readme) {
        Matcher m = Pattern.compile("(?m)^\\| `([^`]*;)` \\|").matcher(readme);
        int told = 0;
        while (m.find()) {
            CHECK.same("README.md: FAULT of " + m.group(1), Check.town(new LateRingers(), m.group(1)), 0);
            told++;
        }
        CHECK.same("README.md: kinds of LINEs", told, 7);
    }

    private static void namesEachTest(String readme) throws IOException {
        List<Path> tests = new ArrayList<>();
        try (Stream<Path> all = Files.list(Path.of("src/test/java"))) {
            all.filter(p -> p.toString().endsWith("Test.java") || p.toString().endsWith("Edges.java")).forEach(tests::add);
        }
        CHECK.yes("there are tests", !tests.isEmpty());
        for (Path test : tests) {
            String name = test.getFileName().toString().replace(".java", "");
            CHECK.yes("README.md names " + name, readme.contains("`" + name + "`"));
        }
        CHECK.yes("README.md names .ci/run", readme.contains("`.ci/run`"));
    }

    public static void main(String[] args) throws IOException, ReflectiveOperationException {
        String readme = Files.readString(Path.of("README.md"));
        String program = program(readme);
        run(program);
        showsEachCall(program);
        tellsLines(readme);
        namesEachTest(readme);
        CHECK.end();
    }
}

import java.io.File;
import java.lang.reflect.Method;
import java.lang.reflect.Modifier;
import java.net.URL;
import java.net.URLClassLoader;
import java.nio.file.Files;
import java.nio.file.Path;
import java.util.regex.Matcher;
import java.util.regex.Pattern;
import java.util.stream.Stream;
import javax.tools.JavaCompiler;
import javax.tools.ToolProvider;

/**
 * README.md: its examples compile and answer what it says, and it names every call and every test (.ci/run starts it in
 * the root).
 */
public final class ReadmeTest {
    private static final Pattern BLOCK = Pattern.compile("(?s)```java\n(.*?)```");
    private static final Pattern ANSWERED =
        Pattern.compile("^(?:(int|long) (\\w+) = )?(x\\.\\w+\\(.*?\\)); +// (-?\\d+)(?::.*)?$");
    private static int wrong = 0;
    private static int answers = 0;

    public static void main(String[] args) throws Exception {
        String page = Files.readString(Path.of("README.md"));
        String program = program(page);
        want(answers >= 30, "README.md shows answers, not " + answers);
        run(program);
        namesEveryCall(page);
        namesEveryTest(page);
        if (wrong != 0) {
            System.exit(1);
        }
        System.out.println(answers + " answers of README.md are so");
    }

    private static void want(boolean so, String what) {
        if (!so) {
            wrong++;
            System.out.println("not so: " + what);
        }
    }

    /** Blocks that are methods stand as they are; the others are one run of calls, as they are read. */
    private static String program(String page) {
        StringBuilder methods = new StringBuilder();
        StringBuilder calls = new StringBuilder();
        Matcher block = BLOCK.matcher(page);
        while (block.find()) {
            if (block.group(1).startsWith("static ")) {
                methods.append(block.group(1));
                continue;
            }
            for (String line : block.group(1).split("\n")) {
                calls.append(line(line)).append("\n");
            }
        }
        return "public final class Shown {\n"
            + "static int wrong = 0;\n"
            + "static void due(String call, long got, long want) {\n"
            + "if (got != want) { wrong++; System.out.println(call + \" answered \" + got + \", README.md says \" + want); }\n"
            + "}\n" + methods + "public static int run() {\n" + calls + "return wrong;\n}\n}\n";
    }

    private static String line(String line) {
        Matcher m = ANSWERED.matcher(line);
        if (!m.matches()) {
            want(!line.contains("// "), "a line whose answer can't be read: " + line);
            return line;
        }
        answers++;
        String call = m.group(3);
        String kept = m.group(1) == null ? "" : m.group(1) + " " + m.group(2) + " = " + call + "; ";
        return kept + "due(\"" + call + "\", " + (kept.isEmpty() ? call : m.group(2)) + ", " + m.group(4) + "L);";
    }

    private static void run(String program) throws Exception {
        Path work = Files.createTempDirectory("readme");
        Path file = work.resolve("Shown.java");
        Files.writeString(file, program);
        JavaCompiler compiler = ToolProvider.getSystemJavaCompiler();
        String classes = System.getProperty("java.class.path");
        int told = compiler.run(null, null, null, "-cp", classes, "-d", work.toString(), file.toString());
        want(told == 0, "README.md's examples compile");
        if (told == 0) {
            URL[] places = {work.toUri().toURL()};
            try (URLClassLoader loader = new URLClassLoader(places, ReadmeTest.class.getClassLoader())) {
                wrong += (Integer) loader.loadClass("Shown").getMethod("run").invoke(null);
            }
        }
        for (File left : work.toFile().listFiles()) {
            Files.delete(left.toPath());
        }
        Files.delete(work);
    }

    private static void namesEveryCall(String page) {
        for (Method method : DowryBoxes.class.getDeclaredMethods()) {
            if (Modifier.isPublic(method.getModifiers())) {
                want(Pattern.compile("[`.]" + method.getName() + "[`(]").matcher(page).find(),
                    "README.md names " + method.getName());
            }
        }
    }

    private static void namesEveryTest(String page) throws Exception {
        try (Stream<Path> tests = Files.list(Path.of("src/test/java"))) {
            tests.map(test -> test.getFileName().toString().replace(".java", ""))
                .forEach(name -> want(page.contains("`" + name + "`"), "README.md names " + name));
        }
        Matcher named = Pattern.compile("`(\\w+Test)`").matcher(page);
        while (named.find()) {
            want(Files.exists(Path.of("src/test/java/" + named.group(1) + ".java")), "there is " + named.group(1));
        }
        want(page.contains("\n.ci/run\n") && Files.isExecutable(Path.of(".ci/run")), ".ci/run runs the tests");
    }
}

import java.io.IOException;
import java.lang.reflect.Method;
import java.lang.reflect.Modifier;
import java.net.URL;
import java.net.URLClassLoader;
import java.nio.file.Files;
import java.nio.file.Path;
import java.util.regex.Matcher;
import java.util.regex.Pattern;
import java.util.stream.Stream;
import javax.tools.ToolProvider;

/** README.md keeps its word: its example compiles and answers as it says; it names each call, constant and test. */
public final class ReadmeTest extends Calls {
    private static final Path PAGE = Path.of("README.md");
    private static final Path TESTS = Path.of("src/test/java");
    private static final Pattern EXAMPLE = Pattern.compile("```java\\n(.*?)```", Pattern.DOTALL);
    private static final Pattern ANSWER = Pattern.compile("(x\\.\\w+\\([-0-9, ]*\\)); *// (-?\\d+|[A-Z]+): .*");
    private static final int FEWEST_ANSWERS = 18;

    public static void main(String[] args) throws Exception {
        String page = Files.readString(PAGE);
        must("it is not empty", !page.isBlank());
        namesEachCallAndConstant(page);
        namesEachTest(page);
        exampleAnswersAsItSays(page);
        end();
    }

    private static void must(String what, boolean right) {
        due(0, "README.md: " + what, right ? 1 : 0, 1);
    }

    private static void namesEachCallAndConstant(String page) {
        for (Method m : RotaFathers.class.getDeclaredMethods()) {
            if (Modifier.isPublic(m.getModifiers())) {
                must("it names " + m.getName(), page.contains("`" + m.getName() + "("));
            }
        }
        for (String constant : new String[] {"NONE", "UNKNOWN", "OUTSIDE", "STATE", "FULL"}) {
            must("it names " + constant, page.contains("`" + constant + "`"));
        }
    }

    private static void namesEachTest(String page) throws IOException {
        must("it names .ci/run", page.contains(".ci/run"));
        try (Stream<Path> tests = Files.list(TESTS)) {
            for (Path test : tests.toList()) {
                String name = test.getFileName().toString().replace(".java", "");
                must("it names " + name, page.contains("`" + name + "`"));
            }
        }
    }

    /** Each line that bears its answer becomes a call of example(); the others stay as they are. */
    private static void exampleAnswersAsItSays(String page) throws Exception {
        Matcher example = EXAMPLE.matcher(page);
        must("it has an example", example.find());
        StringBuilder code = new StringBuilder("public class Example { public static void told() {\n");
        int answers = 0;
        for (String line : example.group(1).split("\n")) {
            Matcher m = ANSWER.matcher(line);
            if (m.matches()) {
                answers++;
                String want = m.group(2).matches("[A-Z]+") ? "RotaFathers." + m.group(2) : m.group(2);
                code.append("ReadmeTest.example(\"README.md: " + m.group(1) + "\", " + m.group(1) + ", " + want + ");\n");
            } else {
                must("a line with words behind it tells its answer: " + line, !line.contains("//"));
                code.append(line).append('\n');
            }
        }
        must("its example bears answers", answers >= FEWEST_ANSWERS);
        run(code.append("} }\n").toString());
    }

    private static void run(String code) throws Exception {
        Path folder = Files.createTempDirectory("readme");
        Path source = Files.writeString(folder.resolve("Example.java"), code);
        String classes = System.getProperty("java.class.path");
        int faults = ToolProvider.getSystemJavaCompiler()
            .run(null, null, null, "-cp", classes, "-d", folder.toString(), source.toString());
        must("its example compiles", faults == 0);
        if (faults == 0) {
            URL[] where = {folder.toUri().toURL()};
            try (URLClassLoader loader = new URLClassLoader(where, ReadmeTest.class.getClassLoader())) {
                loader.loadClass("Example").getMethod("told").invoke(null);
            }
        }
        Files.deleteIfExists(folder.resolve("Example.class"));
        Files.deleteIfExists(source);
        Files.deleteIfExists(folder);
    }

    /** Public, for the example is of another loader. */
    public static void example(String call, long got, long want) {
        due(0, call, got, want);
    }
}

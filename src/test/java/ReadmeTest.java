import java.io.IOException;
import java.lang.reflect.Method;
import java.lang.reflect.Modifier;
import java.nio.file.DirectoryStream;
import java.nio.file.Files;
import java.nio.file.Path;
import java.util.ArrayList;
import java.util.Collections;
import java.util.Comparator;
import java.util.List;
import java.util.stream.Stream;
import javax.tools.ToolProvider;

/** README.md is there, its example compiles and answers as it says, and it names each call and each test. */
public final class ReadmeTest {
    private static final Path README = Path.of("README.md");
    private static final Path PROGRAM = Path.of("src/main/java/TypedBlood.java");
    private static final Path TESTS = Path.of("src/test/java");

    private ReadmeTest() {
    }

    public static void main(String[] args) throws IOException, InterruptedException {
        Check.same("README.md is there", String.valueOf(Files.isRegularFile(README)), "true");
        if (Files.isRegularFile(README)) {
            List<String> readme = Files.readAllLines(README);
            exampleAnswersAsTold(readme);
            eachCallIsNamed(readme);
            theWayToRunTheTestsIsTold(readme);
        }
        Check.finish();
    }

    private static void exampleAnswersAsTold(List<String> readme) throws IOException, InterruptedException {
        List<String> example = javaBlock(readme);
        List<String> due = toldAnswers(example);
        Check.same("the example tells answers", String.valueOf(due.size() > 0), "true");
        Path folder = Files.createTempDirectory("readme");
        try {
            Path source = folder.resolve("Example.java");
            Files.write(source, example);
            int refused = ToolProvider.getSystemJavaCompiler().run(null, null, null, "--release", "17",
                "-d", folder.toString(), PROGRAM.toString(), source.toString());
            Check.same("javac of the example", refused, 0);
            if (refused == 0) {
                runIn(folder, due);
            }
        } finally {
            remove(folder);
        }
    }

    private static void runIn(Path folder, List<String> due) throws IOException, InterruptedException {
        Path printed = folder.resolve("printed");
        String java = Path.of(System.getProperty("java.home"), "bin", "java").toString();
        Process run = new ProcessBuilder(java, "-cp", folder.toString(), "Example")
            .redirectErrorStream(true).redirectOutput(printed.toFile()).start();
        Check.same("exit code of the example", run.waitFor(), 0);
        List<String> got = Files.readAllLines(printed);
        Check.same("lines that the example prints", got.size(), due.size());
        for (int n = 0; n < Math.min(got.size(), due.size()); n++) {
            Check.same("line " + n + " of the example", got.get(n), due.get(n));
        }
    }

    /** The lines of the one block of Java. */
    private static List<String> javaBlock(List<String> readme) {
        Check.same("blocks of Java", Collections.frequency(readme, "```java"), 1);
        List<String> behind = readme.subList(readme.indexOf("```java") + 1, readme.size());
        int to = behind.indexOf("```");
        return behind.subList(0, to == -1 ? behind.size() : to);
    }

    /** Of each line that prints, what stands between // and the colon. */
    private static List<String> toldAnswers(List<String> example) {
        List<String> told = new ArrayList<>();
        for (String line : example) {
            if (line.contains("println")) {
                int from = line.indexOf("// ");
                int to = line.indexOf(": ", Math.max(from, 0));
                told.add(from == -1 || to == -1 ? "nothing told: " + line.strip() : line.substring(from + 3, to));
            }
        }
        return told;
    }

    private static void eachCallIsNamed(List<String> readme) {
        for (Method call : TypedBlood.class.getDeclaredMethods()) {
            if (Modifier.isPublic(call.getModifiers())) {
                String row = rowThatBegins(readme, "| `" + call.getName() + "(");
                Check.same("parameters that README.md tells of " + call.getName() + " in '" + row + "'",
                    parametersIn(row), call.getParameterCount());
            }
        }
    }

    private static String rowThatBegins(List<String> readme, String beginning) {
        for (String line : readme) {
            if (line.startsWith(beginning)) {
                return line;
            }
        }
        return "";
    }

    /** How many there are in the first brackets of a row; -1 without brackets. */
    private static int parametersIn(String row) {
        int from = row.indexOf('(');
        int to = row.indexOf(')');
        if (from == -1 || to == -1) {
            return -1;
        }
        String inside = row.substring(from + 1, to);
        return inside.isEmpty() ? 0 : inside.split(",").length;
    }

    private static void theWayToRunTheTestsIsTold(List<String> readme) throws IOException {
        Check.same("README.md tells .ci/run", String.valueOf(readme.contains(".ci/run")), "true");
        Check.same(".ci/run can be run", String.valueOf(Files.isExecutable(Path.of(".ci/run"))), "true");
        try (DirectoryStream<Path> tests = Files.newDirectoryStream(TESTS, "*Test.java")) {
            for (Path test : tests) {
                String name = test.getFileName().toString().replace(".java", "");
                String row = rowThatBegins(readme, "| `" + name + "` |");
                Check.same("README.md tells " + name, String.valueOf(!row.isEmpty()), "true");
            }
        }
    }

    private static void remove(Path folder) throws IOException {
        try (Stream<Path> inside = Files.walk(folder)) {
            for (Path path : inside.sorted(Comparator.reverseOrder()).toList()) {
                Files.delete(path);
            }
        }
    }
}

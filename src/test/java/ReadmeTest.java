import java.io.ByteArrayOutputStream;
import java.io.File;
import java.io.IOException;
import java.io.PrintStream;
import java.net.URL;
import java.net.URLClassLoader;
import java.nio.charset.StandardCharsets;
import java.nio.file.Files;
import java.nio.file.Path;
import java.util.ArrayList;
import java.util.List;
import java.util.Set;
import java.util.TreeSet;
import java.util.regex.Matcher;
import java.util.regex.Pattern;
import javax.tools.JavaCompiler;
import javax.tools.ToolProvider;

/** README.md says what is so. It is run in the project's folder, as .ci/run does. */
public final class ReadmeTest {
    private static final Path README = Path.of("README.md");
    private static final Path RUN = Path.of(".ci", "run");
    private static final Path TESTS = Path.of("src", "test", "java");
    private static final Pattern ROW_OF_TEXTS = Pattern.compile(
            "\\| (\\S+) \\| (\\d+) \\| (\\d+) \\| (\\d+) \\| (\\d+) \\| `\"(.*)\"` \\|");
    private static final Pattern ROW_OF_TESTS = Pattern.compile("\\| `(\\w+)` \\| .* \\|");

    public static void main(String[] args) throws Exception {
        Subject subject = new Subject("ReadmeTest");
        List<String> lines = Files.readAllLines(README, StandardCharsets.UTF_8);
        theExample(subject, lines);
        theTexts(subject, lines);
        theWayToRunTheTests(subject, lines);
        theTableOfTests(subject, lines);
        subject.finish();
    }

    private static void theExample(Subject subject, List<String> lines) throws Exception {
        subject.sentence("the example answers as README.md says");
        String printed = printedBy(block(lines, "java"));
        subject.same("what the example prints", printed, block(lines, "text"));
    }

    private static void theTexts(Subject subject, List<String> lines) {
        subject.sentence("the texts in README.md's table");
        int rows = 0;
        for (String line : lines) {
            Matcher row = ROW_OF_TEXTS.matcher(line);
            if (row.matches()) {
                subject.text(Double.parseDouble(row.group(1)), number(row, 2), number(row, 3), number(row, 4),
                        number(row, 5), row.group(6));
                rows++;
            }
        }
        subject.same("the table of texts has rows", rows > 0, true);
    }

    private static void theWayToRunTheTests(Subject subject, List<String> lines) {
        subject.sentence("README.md's way to run the tests is the one that .ci/run goes");
        subject.same("the command", block(lines, "sh"), ".ci/run\n");
        subject.same(".ci/run can be run", Files.isExecutable(RUN), true);
    }

    private static void theTableOfTests(Subject subject, List<String> lines) {
        subject.sentence("README.md's table names every test");
        Set<String> named = new TreeSet<>();
        for (String line : lines) {
            Matcher row = ROW_OF_TESTS.matcher(line);
            if (row.matches()) {
                named.add(row.group(1) + ".java");
            }
        }
        Set<String> there = new TreeSet<>();
        for (String name : TESTS.toFile().list()) {
            if (name.endsWith("Test.java")) {
                there.add(name);
            }
        }
        subject.same("the tests", named, there);
    }

    private static int number(Matcher row, int group) {
        return Integer.parseInt(row.group(group));
    }

    /** The lines between the fences of the only block of this kind. */
    private static String block(List<String> lines, String kind) {
        int start = lines.indexOf("```" + kind);
        if (start < 0 || start != lines.lastIndexOf("```" + kind)) {
            throw new IllegalStateException("README.md has not one block of " + kind);
        }
        StringBuilder block = new StringBuilder();
        for (int i = start + 1; i < lines.size() && !lines.get(i).equals("```"); i++) {
            block.append(lines.get(i)).append('\n');
        }
        return block.toString();
    }

    private static String printedBy(String statements) throws Exception {
        Path folder = Files.createTempDirectory("readme");
        try {
            compile(folder, "public final class ReadmeExample {\npublic static void main(String[] args) {\n"
                    + statements + "}\n}\n");
            return printedByMain(folder);
        } finally {
            for (File file : folder.toFile().listFiles()) {
                Files.delete(file.toPath());
            }
            Files.delete(folder);
        }
    }

    private static void compile(Path folder, String source) throws IOException {
        JavaCompiler compiler = ToolProvider.getSystemJavaCompiler();
        Path file = Files.writeString(folder.resolve("ReadmeExample.java"), source);
        List<String> options = new ArrayList<>(List.of("--release", "17", "-d", folder.toString()));
        options.addAll(List.of("-cp", System.getProperty("java.class.path"), file.toString()));
        if (compiler.run(null, null, null, options.toArray(new String[0])) != 0) {
            throw new IllegalStateException("README.md's example does not compile");
        }
    }

    private static String printedByMain(Path folder) throws Exception {
        ByteArrayOutputStream printed = new ByteArrayOutputStream();
        PrintStream out = System.out;
        try (URLClassLoader loader = new URLClassLoader(new URL[] {folder.toUri().toURL()})) {
            System.setOut(new PrintStream(printed, true, StandardCharsets.UTF_8));
            loader.loadClass("ReadmeExample").getMethod("main", String[].class).invoke(null, (Object) new String[0]);
        } finally {
            System.setOut(out);
        }
        return printed.toString(StandardCharsets.UTF_8).replace(System.lineSeparator(), "\n");
    }
}

import java.io.IOException;
import java.net.URL;
import java.net.URLClassLoader;
import java.nio.file.Files;
import java.nio.file.Path;
import java.util.ArrayList;
import java.util.Comparator;
import java.util.List;
import java.util.regex.Matcher;
import java.util.regex.Pattern;
import java.util.stream.Collectors;
import java.util.stream.Stream;
import javax.tools.ToolProvider;

/** README.md says what is so: its Java lines answer what is written beside them. */
public final class ReadmeTest extends Checks {
    private static final Path README = Path.of("README.md");
    private static final Path TESTS = Path.of("src/test/java");
    private static final Pattern LINE = Pattern.compile("(?:int (\\w+) = )?(batch\\..*);\\s*// (.*)");
    private static final Pattern ANSWER = Pattern.compile("(-?\\d+|NONE|true|false|throws \\w+)(:.*)?");

    /** A block of Java lines: what to run, and the calls in it with the answers written beside them. */
    private static final class Example {
        private final StringBuilder body = new StringBuilder();
        private final List<String> calls = new ArrayList<>();
        private final List<String> answers = new ArrayList<>();
    }

    public static void main(String[] args) {
        sentence("README.md, how to use it", ReadmeTest::examplesAnswerAsWritten);
        sentence("README.md, how to run its tests", ReadmeTest::testsAreThoseListed);
        end();
    }

    private static void examplesAnswerAsWritten() {
        List<Example> examples = readExamples();
        due("so many examples", examples.size(), 2);
        for (Example example : examples) {
            due("an example has calls", !example.calls.isEmpty(), true);
            compare(example, answersOf(example));
        }
    }

    private static void compare(Example example, List<String> got) {
        for (int i = 0; i < example.calls.size(); i++) {
            String call = example.calls.get(i);
            due(call + " answered " + got.get(i) + ", README.md says " + example.answers.get(i),
                got.get(i).equals(example.answers.get(i)), true);
        }
    }

    private static List<Example> readExamples() {
        List<Example> examples = new ArrayList<>();
        boolean inside = false;
        for (String line : linesOf(README)) {
            if (line.startsWith("```")) {
                inside = line.equals("```java");
                if (inside) {
                    examples.add(new Example());
                }
            } else if (inside) {
                addLine(examples.get(examples.size() - 1), line);
            }
        }
        return examples;
    }

    private static void addLine(Example example, String line) {
        Matcher parts = LINE.matcher(line);
        if (!parts.matches()) {
            due("a line that calls has an answer: " + line, line.contains("batch."), false);
            example.body.append(line).append('\n');
            return;
        }
        Matcher answer = ANSWER.matcher(parts.group(3));
        due("an answer is written: " + line, answer.matches(), true);
        example.calls.add(parts.group(2));
        example.answers.add(!answer.matches() ? "" : answer.group(1).equals("NONE")
            ? "" + BatchClasses.NONE : answer.group(1));
        example.body.append(parts.group(1) == null ? tried(parts.group(2)) : kept(parts.group(1), parts.group(2)));
    }

    private static String tried(String call) {
        return "try { got.add(\"\" + " + call + "); } catch (RuntimeException e) {"
            + " got.add(\"throws \" + e.getClass().getSimpleName()); }\n";
    }

    private static String kept(String name, String call) {
        return "int " + name + " = " + call + ";\ngot.add(\"\" + " + name + ");\n";
    }

    @SuppressWarnings("unchecked")
    private static List<String> answersOf(Example example) {
        try {
            Path folder = Files.createTempDirectory("readme");
            try (URLClassLoader loader = new URLClassLoader(new URL[] {folder.toUri().toURL()},
                    ReadmeTest.class.getClassLoader())) {
                compile(folder, example);
                return (List<String>) loader.loadClass("Written").getMethod("answers").invoke(null);
            } finally {
                remove(folder);
            }
        } catch (IOException | ReflectiveOperationException e) {
            throw new IllegalStateException("the lines of README.md do not run", e);
        }
    }

    private static void compile(Path folder, Example example) throws IOException {
        Path source = folder.resolve("Written.java");
        Files.writeString(source, "import java.util.*;\npublic final class Written {\n"
            + "public static List<String> answers() {\nList<String> got = new ArrayList<>();\n"
            + example.body + "return got;\n}\n}\n");
        int exit = ToolProvider.getSystemJavaCompiler().run(null, null, null, "--release", "17",
            "-cp", System.getProperty("java.class.path"), "-d", folder.toString(), source.toString());
        due("javac of the lines of README.md", exit, 0);
    }

    private static void remove(Path folder) throws IOException {
        try (Stream<Path> held = Files.walk(folder)) {
            for (Path path : held.sorted(Comparator.reverseOrder()).collect(Collectors.toList())) {
                Files.delete(path);
            }
        }
    }

    private static void testsAreThoseListed() {
        List<String> listed = new ArrayList<>();
        Matcher names = Pattern.compile("`(\\w+Test)`").matcher(String.join("\n", linesOf(README)));
        while (names.find()) {
            listed.add(names.group(1));
        }
        due("README.md lists " + listed + ", there are " + testsThere(),
            listed.stream().sorted().collect(Collectors.toList()).equals(testsThere()), true);
        due(".ci/run can be run", Files.isExecutable(Path.of(".ci/run")), true);
    }

    private static List<String> testsThere() {
        try (Stream<Path> files = Files.list(TESTS)) {
            return files.map(file -> file.getFileName().toString().replace(".java", ""))
                .sorted().collect(Collectors.toList());
        } catch (IOException e) {
            throw new IllegalStateException("no tests to list", e);
        }
    }

    private static List<String> linesOf(Path file) {
        try {
            return Files.readAllLines(file);
        } catch (IOException e) {
            throw new IllegalStateException("no " + file, e);
        }
    }
}

import java.io.IOException;
import java.lang.reflect.InvocationTargetException;
import java.lang.reflect.Method;
import java.lang.reflect.Modifier;
import java.net.URL;
import java.net.URLClassLoader;
import java.nio.file.Files;
import java.nio.file.Path;
import java.util.ArrayList;
import java.util.Arrays;
import java.util.List;
import java.util.Set;
import java.util.TreeSet;
import java.util.regex.Matcher;
import java.util.regex.Pattern;
import java.util.stream.Collectors;
import java.util.stream.Stream;
import javax.tools.ToolProvider;

/** What README.md shows of the use of the class, and of its tests, holds as it stands there. */
final class ReadmeTests {
    private static final Path README = Path.of("README.md");
    private static final Path TESTS = Path.of("src", "test", "java");
    private static final String MADE = "FeatureAnalyzer line = new FeatureAnalyzer();";
    private static final Pattern BLOCK = Pattern.compile("(?s)```java\n(.*?)```");
    /** A name that keeps the answer or none, the call, its method, its answer, what explains it. */
    private static final Pattern SHOWN = Pattern.compile(
            "(?:int (\\w+) = )?(line\\.(\\w+)\\([^;]*\\)); +// ([^:]+)(?:: .+)?");
    private static final int CALLS = 512;

    private ReadmeTests() {
    }

    /** A call that it shows. */
    private record Shown(String name, String call, String method, String answer) {
    }

    static void addTo(Suite suite) {
        suite.test("readme: the calls answer what it tells", ReadmeTests::answersHold);
        suite.test("readme: each public method is called", ReadmeTests::allAreCalled);
        suite.test("readme: each exception is thrown", ReadmeTests::allAreThrown);
        suite.test("readme: the calls are not more than 512", () ->
                Check.due(true, shown().size() <= CALLS));
        suite.test("readme: each file of the tests is named", ReadmeTests::testsAreNamed);
        suite.test("readme: each file that is named is there", ReadmeTests::namedAreThere);
    }

    private static String text() {
        try {
            return Files.readString(README);
        } catch (IOException e) {
            throw new AssertionError("there is no " + README);
        }
    }

    /** The calls in their order; each line but the first one is a call with its answer. */
    private static List<Shown> shown() {
        List<String> lines = new ArrayList<>();
        Matcher block = BLOCK.matcher(text());
        while (block.find()) {
            lines.addAll(Arrays.asList(block.group(1).split("\n")));
        }
        Check.dueText(MADE, lines.get(0));
        List<Shown> shown = new ArrayList<>();
        for (String line : lines.subList(1, lines.size())) {
            Matcher parts = SHOWN.matcher(line);
            if (!parts.matches()) {
                throw new AssertionError("it is no call with its answer: " + line);
            }
            shown.add(new Shown(parts.group(1), parts.group(2), parts.group(3), parts.group(4)));
        }
        return shown;
    }

    private static void answersHold() {
        List<String> got = answersOf(programOf(shown()));
        List<String> told = new ArrayList<>();
        List<String> due = new ArrayList<>();
        for (Shown call : shown()) {
            String answer = told.size() < got.size() ? got.get(told.size()) : "nothing";
            due.add(call.call() + " " + answer);
            told.add(call.call() + " " + call.answer());
        }
        Check.dueText(String.join("\n", due), String.join("\n", told));
    }

    private static String programOf(List<Shown> calls) {
        StringBuilder program = new StringBuilder("public final class ShownCalls {\n"
                + "public static void make(java.util.List<String> told) {\n" + MADE + "\n");
        for (Shown call : calls) {
            if (call.name() != null) {
                program.append("int ").append(call.name()).append(" = ").append(call.call())
                        .append("; told.add(String.valueOf(").append(call.name()).append("));\n");
            } else {
                program.append("try { told.add(String.valueOf(").append(call.call())
                        .append(")); } catch (RuntimeException e) {")
                        .append(" told.add(\"throws \" + e.getClass().getSimpleName()); }\n");
            }
        }
        return program.append("}\n}\n").toString();
    }

    private static List<String> answersOf(String program) {
        try {
            Path made = Temporary.make("readme");
            try {
                return run(made, program);
            } finally {
                Temporary.delete(made);
            }
        } catch (IOException | ReflectiveOperationException e) {
            throw new AssertionError("its calls do not run: " + e);
        }
    }

    private static List<String> run(Path made, String program)
            throws IOException, ReflectiveOperationException {
        Path source = Files.writeString(made.resolve("ShownCalls.java"), program);
        Check.due(0, ToolProvider.getSystemJavaCompiler().run(null, null, null,
                "-classpath", System.getProperty("java.class.path"),
                "-d", made.toString(), source.toString()));
        List<String> told = new ArrayList<>();
        URL[] places = {made.toUri().toURL()};
        try (URLClassLoader loader = new URLClassLoader(places)) {
            loader.loadClass("ShownCalls").getMethod("make", List.class).invoke(null, told);
        } catch (InvocationTargetException e) {
            told.add("throws " + e.getCause());
        }
        return told;
    }

    private static void allAreCalled() {
        Set<String> called = shown().stream().map(Shown::method)
                .collect(Collectors.toCollection(TreeSet::new));
        Set<String> face = Arrays.stream(FeatureAnalyzer.class.getDeclaredMethods())
                .filter(m -> Modifier.isPublic(m.getModifiers())).map(Method::getName)
                .collect(Collectors.toCollection(TreeSet::new));
        Check.dueText(face.toString(), called.toString());
    }

    private static void allAreThrown() {
        for (Class<?> exception : List.of(Check.INDEX, Check.ARGUMENT, Check.STATE)) {
            String answer = "throws " + exception.getSimpleName();
            Check.due(true, shown().stream().anyMatch(s -> s.answer().equals(answer)));
        }
    }

    private static void testsAreNamed() {
        try (Stream<Path> files = Files.list(TESTS)) {
            for (Path file : files.collect(Collectors.toList())) {
                String name = file.getFileName().toString().replace(".java", "");
                if (!text().contains("`" + name + "`")) {
                    throw new AssertionError(name + " is not named");
                }
            }
        } catch (IOException e) {
            throw new AssertionError("there is no " + TESTS);
        }
    }

    /** A word in signs of code is a file's path if it has a slash, a test's name if it is long. */
    private static void namedAreThere() {
        Matcher word = Pattern.compile("`([A-Z]\\w{3,}|[\\w./]*/[\\w./]*)`").matcher(text());
        int files = 0;
        while (word.find()) {
            String name = word.group(1);
            Path path = name.contains("/") ? Path.of(name) : TESTS.resolve(name + ".java");
            if (!Files.exists(path)) {
                throw new AssertionError(name + " is not there");
            }
            files++;
        }
        Check.due(true, files > 0);
        Check.due(true, Files.isExecutable(Path.of(".ci", "run")));
    }
}

import java.io.File;
import java.io.IOException;
import java.nio.file.Files;
import java.nio.file.Path;
import java.nio.file.StandardCopyOption;
import java.util.List;

/** What README.md says of .ci/run, tried in small projects that are made for it. */
final class CiRunTests {
    private static final Path SCRIPT = Path.of(".ci", "run");
    private static final String PROGRAM = "public final class FeatureAnalyzer { }\n";
    private static final String BROKEN = "public final class FeatureAnalyzer {\n";
    private static final String GOOD_TESTS = tests("System.out.println(\"2 passed, 0 failed\");");
    private static final String GOOD_GIVEN = given("");
    private static final String EXIT = "System.exit(1);";

    private CiRunTests() {
    }

    static void addTo(Suite suite) {
        // They are started together, for each of them takes seconds.
        List<Try> tries = List.of(
                new Try("all pass", PROGRAM, GOOD_TESTS, GOOD_GIVEN, true, "3 passed, 0 failed"),
                new Try("a test of the project fails", PROGRAM,
                        tests("System.out.println(\"2 passed, 1 failed\"); " + EXIT), GOOD_GIVEN,
                        false, "3 passed, 1 failed"),
                new Try("a test of the project fails, but its exit code is 0", PROGRAM,
                        tests("System.out.println(\"2 passed, 1 failed\");"), GOOD_GIVEN,
                        false, "3 passed, 1 failed"),
                new Try("the project's tests end with another exit code", PROGRAM,
                        tests("System.out.println(\"2 passed, 0 failed\"); " + EXIT), GOOD_GIVEN,
                        false, "2 passed, 1 failed"),
                new Try("the project's tests break off", PROGRAM,
                        tests("System.out.println(\"5\");"), GOOD_GIVEN,
                        false, "0 passed, 1 failed"),
                new Try("a shared test fails", PROGRAM, GOOD_TESTS, given(EXIT),
                        false, "2 passed, 1 failed"),
                new Try("a shared test does not compile", PROGRAM, GOOD_TESTS, given("nothing();"),
                        false, "2 passed, 1 failed"),
                new Try("there is no shared test", PROGRAM, GOOD_TESTS, null,
                        false, "2 passed, 1 failed"),
                new Try("the program does not compile", BROKEN, GOOD_TESTS, GOOD_GIVEN,
                        false, "0 passed, 1 failed"));
        for (Try one : tries) {
            suite.test("ci: " + one.name, one::check);
        }
    }

    private static String tests(String statements) {
        return "public final class AllTests {\npublic static void main(String[] args) {\n"
                + statements + "\n}\n}\n";
    }

    private static String given(String statements) {
        return "public final class Given {\npublic static void main(String[] args) {\n"
                + "System.out.println(new FeatureAnalyzer() != null);\n" + statements + "\n}\n}\n";
    }

    /** A project in a directory of its own, and the run of its copy of the script. */
    private static final class Try {
        private final String name;
        private final boolean isFine;
        private final String lastLine;
        private Path place;
        private Process process;
        private IOException trouble;

        Try(String name, String program, String tests, String given, boolean isFine, String lastLine) {
            this.name = name;
            this.isFine = isFine;
            this.lastLine = lastLine;
            try {
                place = Temporary.make("ci");
                put("main/src/main/java/FeatureAnalyzer.java", program);
                put("main/src/test/java/AllTests.java", tests);
                Files.createDirectories(place.resolve("shared/tests"));
                if (given != null) {
                    put("shared/tests/Given.java", given);
                }
                start();
            } catch (IOException e) {
                trouble = e;
            }
        }

        private void put(String file, String text) throws IOException {
            Path path = place.resolve(file);
            Files.createDirectories(path.getParent());
            Files.writeString(path, text);
        }

        /** It is called from a directory that is not the project's. */
        private void start() throws IOException {
            Path copy = place.resolve("main/.ci/run");
            Files.createDirectories(copy.getParent());
            Files.copy(SCRIPT, copy, StandardCopyOption.COPY_ATTRIBUTES);
            File told = place.resolve("told").toFile();
            process = new ProcessBuilder(copy.toString()).directory(place.toFile())
                    .redirectErrorStream(true).redirectOutput(told).start();
        }

        void check() {
            try {
                if (trouble != null) {
                    throw trouble;
                }
                try {
                    compare(process.waitFor(), Files.readAllLines(place.resolve("told")));
                } finally {
                    Temporary.delete(place);
                }
            } catch (IOException | InterruptedException e) {
                throw new AssertionError("it does not run: " + e);
            }
        }

        private void compare(int exit, List<String> lines) {
            Check.due(true, !lines.isEmpty());
            Check.dueText(lastLine, lines.get(lines.size() - 1));
            Check.due(isFine, exit == 0);
        }
    }
}

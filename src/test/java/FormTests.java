import java.io.IOException;
import java.lang.reflect.Field;
import java.lang.reflect.Method;
import java.lang.reflect.Modifier;
import java.nio.file.Files;
import java.nio.file.Path;
import java.util.ArrayList;
import java.util.List;
import java.util.regex.Matcher;
import java.util.regex.Pattern;

/** Rules of LANGUAGE.md that the program's text or its classes show. */
final class FormTests {
    private static final Path PROGRAM = Path.of("src", "main", "java", "FeatureAnalyzer.java");
    private static final String LIBRARY = "java\\.util\\.(Arrays|ArrayList|List|Iterator|NoSuchElementException)";
    private static final String THROWN = "(IllegalState|IllegalArgument|IndexOutOfBounds|Arithmetic"
            + "|UnsupportedOperation|NoSuchElement|Runtime)Exception";
    private static final int MOST_LINES = 60;

    private FormTests() {
    }

    static void addTo(Suite suite) {
        suite.test("form: rule 1, no package line", () -> none("\\bpackage\\b"));
        suite.test("form: rule 2, no lambda, no method reference", () -> none("::|\\w\\s*\\)\\s*->"));
        suite.test("form: rule 4, no library but what is listed", FormTests::imports);
        suite.test("form: rule 4, no function whose name ends in Exact", () -> none("Exact\\("));
        suite.test("form: rule 5, static fields are final, no static initialiser", () -> none("static\\s*\\{"));
        suite.test("form: rule 6, throw new E() of the listed ones alone", FormTests::thrown);
        suite.test("form: rule 6, no finally, synchronized, assert, getMessage", () ->
                none("\\b(finally|synchronized|assert|getMessage)\\b"));
        suite.test("form: rule 6, no equals, hashCode or toString of its own", () ->
                none("\\b(boolean equals|int hashCode|String toString)\\("));
        suite.test("form: rule 10, no texts joined by +", () -> none("\"\\s*\\+|\\+\\s*\""));
        suite.test("form: rule 11, parameters, classes and fields", FormTests::sizes);
        suite.test("form: rule 11, short methods", FormTests::lengths);
        suite.test("form: rule 13, nothing of System but arraycopy", () -> none("\\bSystem\\.(?!arraycopy)"));
        suite.test("form: none of what the machine throws is caught", () -> none("\\bcatch\\s*\\([^)]*"
                + "\\b(ArrayIndexOutOfBounds|NullPointer|ClassCast|NegativeArraySize|ArrayStore)Exception"));
    }

    /** The program without its comments, and with empty texts. */
    private static String text() {
        try {
            String whole = Files.readString(PROGRAM);
            return whole.replaceAll("(?s)/\\*.*?\\*/", "").replaceAll("//[^\n]*", "")
                    .replaceAll("\"[^\"\n]*\"", "\"\"");
        } catch (IOException e) {
            throw new AssertionError("there is no " + PROGRAM);
        }
    }

    private static void none(String forbidden) {
        Matcher matcher = Pattern.compile(forbidden).matcher(text());
        if (matcher.find()) {
            throw new AssertionError("the program has " + matcher.group());
        }
    }

    private static void imports() {
        none("(?m)^import (?!" + LIBRARY + ";)");
        none("\\bjava\\.(?!util\\.)|\\bjava\\.util\\.(?!\\w+;)");
    }

    private static void thrown() {
        none("\\bthrow\\b(?! new " + THROWN + "\\((\"\")?\\);)");
    }

    private static void sizes() {
        List<Class<?>> classes = new ArrayList<>(List.of(FeatureAnalyzer.class.getDeclaredClasses()));
        classes.add(FeatureAnalyzer.class);
        Check.due(true, classes.size() <= 12);
        for (Class<?> owner : classes) {
            int fields = 0;
            for (Field field : owner.getDeclaredFields()) {
                fields += Modifier.isStatic(field.getModifiers()) ? 0 : 1;
            }
            Check.due(true, fields <= 20);
            for (Method method : owner.getDeclaredMethods()) {
                Check.due(true, method.getParameterCount() <= 7);
            }
        }
    }

    /** A method's closing brace stands below the beginning of its first line. */
    private static void lengths() {
        String[] lines = text().split("\n");
        for (int from = 0; from < lines.length; from++) {
            String line = lines[from];
            String indent = line.substring(0, line.length() - line.stripLeading().length());
            boolean isMethod = indent.matches(" {4}| {8}") && line.matches(".*\\w\\(.*")
                    && !line.matches(".*\\b(if|for|while|switch|new|return)\\b.*|.*[;=].*");
            int to = from;
            while (isMethod && to < lines.length - 1 && !lines[to].equals(indent + "}")) {
                to++;
            }
            Check.due(true, to - from < MOST_LINES);
        }
    }
}

import java.util.ArrayList;
import java.util.List;

/** Runs tests, tells those that fail, and counts them. */
final class Suite {
    private int passed = 0;
    private final List<String> failures = new ArrayList<>();

    void test(String name, Runnable body) {
        try {
            body.run();
            passed++;
        } catch (RuntimeException | Error e) {
            failures.add(name + ": " + e);
        }
    }

    int passed() {
        return passed;
    }

    List<String> failures() {
        return failures;
    }
}

import java.util.function.Consumer;
import java.util.function.Supplier;
import java.util.function.ToIntFunction;

/** Tests of refused calls: the due exception comes, and nothing has changed. */
final class Refusals {
    private Refusals() {
    }

    /** A call that is made with a number that is outside. */
    interface Call {
        void make(FeatureAnalyzer x, int outside);
    }

    /** Numbers outside a range. */
    enum Outside {
        JUST_BELOW, JUST_ABOVE, NEXT_BUT_ONE,
        // A shift by it shifts nothing, and as a byte it is 0.
        ROUND,
        LEAST_OF_ALL, GREATEST_OF_ALL;

        int of(int least, int greatest) {
            return switch (this) {
                case JUST_BELOW -> least - 1;
                case JUST_ABOVE -> greatest + 1;
                case NEXT_BUT_ONE -> greatest + 2;
                case ROUND -> 1 << 16;
                case LEAST_OF_ALL -> Integer.MIN_VALUE;
                case GREATEST_OF_ALL -> Integer.MAX_VALUE;
            };
        }
    }

    /** The call is refused on a line that has not been asked anything, and on one that has been. */
    static void due(Class<? extends RuntimeException> want, Supplier<FeatureAnalyzer> line,
            Consumer<FeatureAnalyzer> call) {
        String untouched = Answers.of(line.get());
        FeatureAnalyzer unasked = line.get();
        Check.dueThrow(want, () -> call.accept(unasked));
        Check.dueText(untouched, Answers.of(unasked));
        FeatureAnalyzer asked = line.get();
        asked.digest();
        asked.frontSize();
        asked.sampleSize();
        Check.dueThrow(want, () -> call.accept(asked));
        Check.dueThrow(want, () -> call.accept(asked));
        Check.dueText(untouched, Answers.of(asked));
    }

    /** A test for each kind of number outside least to greatest, on each line. */
    static void addRange(Suite suite, String sentence, Class<? extends RuntimeException> want,
            int least, ToIntFunction<Line> greatest, Call call) {
        for (Line line : Line.values()) {
            for (Outside outside : Outside.values()) {
                suite.test(sentence + " [" + outside + ", " + line + "]", () -> {
                    int wrong = outside.of(least, greatest.applyAsInt(line));
                    due(want, line::make, x -> call.make(x, wrong));
                });
            }
        }
    }

    /** As addRange, for what is no feature. */
    static void addNoFeature(Suite suite, int promise, String which, Call call) {
        String sentence = promise + ": Throws IndexOutOfBoundsException if there is no such feature"
                + which;
        addRange(suite, sentence, Check.INDEX, 0, line -> line.features() - 1, call);
    }

    /** As addRange, for what is no configuration. */
    static void addNoConfiguration(Suite suite, int promise, Call call) {
        String sentence = promise + ": Throws IllegalArgumentException if it is not a configuration"
                + " of the features that there are";
        addRange(suite, sentence, Check.ARGUMENT, 0, line -> (1 << line.features()) - 1, call);
    }

    /** One call, on each line. */
    static void addOne(Suite suite, String sentence, Class<? extends RuntimeException> want,
            Consumer<FeatureAnalyzer> call) {
        for (Line line : Line.values()) {
            suite.test(sentence + " [" + line + "]", () -> due(want, line::make, call));
        }
    }
}

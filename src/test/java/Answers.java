import java.util.function.IntUnaryOperator;
import java.util.function.LongSupplier;

/**
 * All that an analyzer answers, as a text, in some 300 calls. The last of them change it, to see
 * what they say of the state before, so it is of no use afterwards.
 */
final class Answers {
    private static final int END_OF_ROW = 8;

    private final FeatureAnalyzer x;
    private final int features;
    private final StringBuilder told = new StringBuilder();

    private Answers(FeatureAnalyzer x) {
        this.x = x;
        this.features = x.featureCount();
    }

    static String of(FeatureAnalyzer x) {
        Answers answers = new Answers(x);
        answers.askOfConfigurations();
        answers.askOfFeatures();
        answers.askOfRows();
        answers.askTheRest();
        answers.askByChanges();
        return answers.told.toString();
    }

    private void tell(String call, LongSupplier answer) {
        told.append(call).append(' ');
        try {
            told.append(answer.getAsLong());
        } catch (RuntimeException e) {
            told.append(e.getClass().getName());
        }
        told.append('\n');
    }

    private void askOfConfigurations() {
        int all = (1 << features) - 1;
        askOfConfiguration(0);
        askOfConfiguration(all);
        for (int f = 0; f < features; f++) {
            askOfConfiguration(1 << f);
            askOfConfiguration(all - (1 << f));
        }
        tell("nearest none", () -> x.nearest(0));
        tell("nearest all", () -> x.nearest(all));
    }

    private void askOfConfiguration(int c) {
        tell("violations " + c, () -> x.violations(c));
        tell("costOf " + c, () -> x.costOf(c));
        tell("valueOf " + c, () -> x.valueOf(c));
    }

    private void askOfFeatures() {
        for (int f = 0; f < features; f++) {
            int feature = f;
            tell("isDead " + f, () -> x.isDead(feature) ? 1 : 0);
            tell("isCore " + f, () -> x.isCore(feature) ? 1 : 0);
            tell("isFalselyFree " + f, () -> x.isFalselyFree(feature) ? 1 : 0);
            tell("areTogether 0 " + f, () -> x.areTogether(0, feature) ? 1 : 0);
            tell("blame " + f, () -> x.blame(feature));
            tell("share " + f, () -> Double.doubleToLongBits(x.share(feature)));
        }
    }

    private void askOfRows() {
        askOfRow("product", x.productCount(), x::product);
        askOfRow("candidate", x.candidateCount(), x::candidate);
        askOfRow("front", x.frontSize(), x::front);
        askOfRow("sample", x.sampleSize(), x::sample);
    }

    private void askOfRow(String row, int size, IntUnaryOperator member) {
        told.append(row).append("s ").append(size).append('\n');
        for (int i = 0; i < size; i++) {
            int index = i;
            if (i < END_OF_ROW || i >= size - END_OF_ROW) {
                tell(row + " " + i, () -> member.applyAsInt(index));
            }
        }
    }

    private void askTheRest() {
        tell("bundles", x::bundles);
        tell("forced", x::forced);
        tell("ruledOut", x::ruledOut);
        tell("question", x::question);
        tell("cheapest", x::cheapest);
        tell("best", x::best);
        tell("pairCount", x::pairCount);
        tell("digest", x::digest);
    }

    private void askByChanges() {
        tell("budget", () -> x.setBudget(-1));
        for (int f = 0; f < features; f++) {
            int feature = f;
            tell("decision " + f, () -> x.decide(feature, 0));
            tell("relation " + f, () -> x.setRelation(feature, 1));
            tell("worth " + f, () -> x.setWorth(feature, 0, 0) ? 1 : 0);
        }
        for (int k = 0; k <= 10; k++) {
            int constraint = k;
            tell("on " + k, () -> x.turn(constraint, true) ? 1 : 0);
        }
        for (int k = 0; k <= 10; k++) {
            tell("left", x::dropConstraint);
        }
        tell("next feature", () -> x.addFeature(0, 1));
    }
}

import java.util.function.Consumer;
import java.util.function.ToIntBiFunction;

/** Promises 12 to 22: each sentence that names a boundary. */
final class ProductEdges {
    private ProductEdges() {
    }

    static void addTo(Suite suite) {
        configurationTests(suite);
        suite.test("15: Returns the number of products (none: 0)", ProductEdges::noProducts);
        suite.test("15: Returns the number of products (1, and as many as can be: 2048)", ProductEdges::mostProducts);
        Refusals.addRange(suite, "16: Throws IndexOutOfBoundsException if there is no such product",
                Check.INDEX, 0, line -> line.make().productCount() - 1, FeatureAnalyzer::product);
        suite.test("16: Throws IndexOutOfBoundsException if there is no such product (there are none)", () ->
                Refusals.due(Check.INDEX, ProductEdges::withoutProducts, x -> x.product(0)));
        suite.test("16: index: the least and the greatest one that is allowed", ProductEdges::productEnds);
        featureTests(suite);
        blameTests(suite);
    }

    private static void configurationTests(Suite suite) {
        Refusals.addNoConfiguration(suite, 12, FeatureAnalyzer::violations);
        Refusals.addNoConfiguration(suite, 13, FeatureAnalyzer::costOf);
        Refusals.addNoConfiguration(suite, 14, FeatureAnalyzer::valueOf);
        suite.test("12: configuration: 0 and 2^n - 1 are allowed, 2^n is not (n from 1 to 12)", ProductEdges::violationsEnds);
        suite.test("13: configuration: 0 and 2^n - 1 are allowed, 2^n is not (n from 1 to 12)", () -> sumEnds(FeatureAnalyzer::costOf));
        suite.test("14: configuration: 0 and 2^n - 1 are allowed, 2^n is not (n from 1 to 12)", () -> sumEnds(FeatureAnalyzer::valueOf));
        suite.test("12: Returns how many rules it breaks (none: 0)", ProductEdges::violationsNone);
        suite.test("12: Returns how many rules it breaks (the empty one: 1)", ProductEdges::violationsEmpty);
        suite.test("12: Returns how many rules it breaks (as many as can be)", ProductEdges::violationsMost);
        suite.test("13: Returns its cost (0, and as great as can be: 12000)", ProductEdges::greatestCost);
        suite.test("14: Returns its value (0, and as great as can be: 12000)", ProductEdges::greatestValue);
    }

    private static void featureTests(Suite suite) {
        Refusals.addNoFeature(suite, 17, "", FeatureAnalyzer::isDead);
        suite.test("17: Returns whether no product has it (there are no products)", ProductEdges::allDead);
        suite.test("17: Returns whether no product has it (just one has it)", ProductEdges::deadButForOne);
        Refusals.addNoFeature(suite, 18, "", FeatureAnalyzer::isCore);
        suite.test("18: Returns whether there is a product, and all products have it (there are none)", ProductEdges::noCore);
        suite.test("18: Returns whether there is a product, and all products have it (just one has it not)", ProductEdges::coreButForOne);
        Refusals.addNoFeature(suite, 19, "", FeatureAnalyzer::isFalselyFree);
        suite.test("19: it has the relation MAY (the feature 0 has none)", ProductEdges::rootIsNotFree);
        suite.test("19: it has the relation MAY (MUST, ONE and SOME are other ones)", ProductEdges::onlyMayIsFree);
        suite.test("19: some product has its parent (none has)", ProductEdges::deadParent);
        suite.test("19: some product has its parent (there are no products)", ProductEdges::noneFree);
        suite.test("19: all products that have its parent have it (just one does not)", ProductEdges::freeForOne);
        Refusals.addNoFeature(suite, 20, " (a)", (x, wrong) -> x.areTogether(wrong, 0));
        Refusals.addNoFeature(suite, 20, " (b)", (x, wrong) -> x.areTogether(0, wrong));
        Refusals.addNoFeature(suite, 20, " (both)", (x, wrong) -> x.areTogether(wrong, wrong));
        suite.test("20: Returns whether each product has both or none of them (a is b)", ProductEdges::togetherWithItself);
        suite.test("20: Returns whether each product has both or none of them (there are no products)", ProductEdges::togetherInNone);
        suite.test("20: Returns whether each product has both or none of them (just one has one alone)", ProductEdges::togetherButForOne);
        suite.test("20: Returns whether each product has both or none of them (both are dead)", ProductEdges::togetherDead);
        suite.test("21: Returns their number (as few as can be: 1)", ProductEdges::oneBundle);
        suite.test("21: Returns their number (as many as can be: 12)", ProductEdges::twelveBundles);
        suite.test("21: Returns their number (there are no products: 1)", ProductEdges::bundlesOfNone);
    }

    private static void blameTests(Suite suite) {
        Refusals.addNoFeature(suite, 22, "", FeatureAnalyzer::blame);
        suite.test("22: 0 if the feature is not dead", ProductEdges::blameNone);
        suite.test("22: 0 if the feature is not dead (no candidate has it)", ProductEdges::blameNoCandidate);
        suite.test("22: as few as can be (before the smallest number)", ProductEdges::blameFewest);
        suite.test("22: of several the one that is told by the smallest number (of one constraint)", ProductEdges::blameSmallest);
        suite.test("22: of several the one that is told by the smallest number (of two)", ProductEdges::blameSmallestOfTwo);
        suite.test("22: a set of constraints that are on (what is off is not in it)", ProductEdges::blameOn);
        suite.test("22: the sum of the powers 2^k (all ten: 1023)", ProductEdges::blameAll);
        suite.test("22: the sum of the powers 2^k (the last one alone: 512)", ProductEdges::blameLast);
    }

    static FeatureAnalyzer withoutProducts() {
        FeatureAnalyzer x = Line.BUSY.make();
        x.addConstraint(Lines.EXCLUDE, 0, 0);
        return x;
    }

    /** It had products, and was asked for them. */
    static FeatureAnalyzer productsGone() {
        FeatureAnalyzer x = Line.BUSY.make();
        x.digest();
        x.bundles();
        x.frontSize();
        x.sampleSize();
        x.addConstraint(Lines.EXCLUDE, 0, 0);
        return x;
    }

    /** The check holds where there never were products, and where there are none any more. */
    private static void checkOnNone(Consumer<FeatureAnalyzer> check) {
        check.accept(withoutProducts());
        check.accept(productsGone());
    }

    private static FeatureAnalyzer dear(int features) {
        FeatureAnalyzer x = Lines.flat(features - 1, Lines.MUST);
        for (int f = 0; f < features; f++) {
            x.setWorth(f, 1000, 1000);
        }
        return x;
    }

    private static void violationsEnds() {
        for (int n = 1; n <= 12; n++) {
            FeatureAnalyzer x = Lines.flat(n - 1, Lines.MAY);
            int past = 1 << n;
            Check.due(1, x.violations(0));
            Check.due(0, x.violations(past - 1));
            Check.dueThrow(Check.ARGUMENT, () -> x.violations(past));
            if (n < 12) {
                x.addFeature(0, Lines.MAY);
                Check.due(2, x.violations(past));
            }
        }
    }

    /** Of costs or values of 1000 each. */
    private static void sumEnds(ToIntBiFunction<FeatureAnalyzer, Integer> sum) {
        for (int n = 1; n <= 12; n++) {
            FeatureAnalyzer x = dear(n);
            int past = 1 << n;
            Check.due(0, sum.applyAsInt(x, 0));
            Check.due(1000L * n, sum.applyAsInt(x, past - 1));
            Check.dueThrow(Check.ARGUMENT, () -> sum.applyAsInt(x, past));
            if (n < 12) {
                x.addFeature(0, Lines.MAY);
                Check.due(0, sum.applyAsInt(x, past));
            }
        }
    }

    private static void violationsNone() {
        FeatureAnalyzer x = Line.FULL.make();
        for (int i = 0; i < x.productCount(); i++) {
            Check.due(0, x.violations(x.product(i)));
        }
        Check.due(0, new FeatureAnalyzer().violations(1));
    }

    private static void violationsEmpty() {
        for (Line line : Line.values()) {
            Check.due(1, line.make().violations(0));
            FeatureAnalyzer x = line.make();
            x.reopen();
            x.setBudget(0);
            Check.due(1, x.violations(0));
        }
    }

    private static void violationsMost() {
        FeatureAnalyzer x = Lines.flat(11, Lines.MUST);
        for (int k = 0; k < 10; k++) {
            x.addConstraint(Lines.EXCLUDE, 0, 0);
        }
        Check.due(21, x.violations(1));
        Check.due(10, x.violations(4095));
        FeatureAnalyzer y = Lines.flat(11, Lines.MAY);
        Check.due(12, y.violations(4094));
        for (int k = 0; k < 10; k++) {
            y.addConstraint(Lines.REQUIRE, 11, 0);
        }
        Check.due(22, y.violations(4094));
        Check.due(12, y.violations(2048));
    }

    private static void greatestCost() {
        FeatureAnalyzer x = dear(12);
        Check.due(12000, x.costOf(4095));
        Check.due(0, x.costOf(0));
        Check.due(11000, x.costOf(4094));
        Check.due(0, Lines.flat(11, Lines.MAY).costOf(4095));
    }

    private static void greatestValue() {
        FeatureAnalyzer x = dear(12);
        Check.due(12000, x.valueOf(4095));
        Check.due(0, x.valueOf(0));
        Check.due(11000, x.valueOf(4094));
        Check.due(0, Lines.flat(11, Lines.MAY).valueOf(4095));
    }

    private static void noProducts() {
        checkOnNone(x -> Check.due(0, x.productCount()));
        FeatureAnalyzer y = Lines.flat(2, Lines.MUST);
        y.addConstraint(Lines.EXCLUDE, 1, 2);
        Check.due(0, y.productCount());
        FeatureAnalyzer z = new FeatureAnalyzer();
        z.addConstraint(Lines.EXCLUDE, 0, 0);
        Check.due(0, z.productCount());
    }

    private static void mostProducts() {
        Check.due(2048, Lines.flat(11, Lines.MAY).productCount());
        Check.due(1, Lines.chain(12, Lines.MUST).productCount());
        Check.due(1, Lines.flat(1, Lines.ONE).productCount());
        Check.due(1, Lines.flat(1, Lines.SOME).productCount());
    }

    private static void productEnds() {
        FeatureAnalyzer x = Lines.flat(11, Lines.MAY);
        Check.due(1, x.product(0));
        Check.due(4095, x.product(2047));
        Check.due(4093, x.product(2046));
        FeatureAnalyzer y = Lines.flat(11, Lines.MUST);
        Check.due(4095, y.product(0));
        Check.dueThrow(Check.INDEX, () -> y.product(1));
    }

    private static void allDead() {
        checkOnNone(x -> {
            for (int f = 0; f < 7; f++) {
                Check.due(true, x.isDead(f));
            }
        });
    }

    private static void deadButForOne() {
        FeatureAnalyzer x = Lines.flat(11, Lines.ONE);
        for (int f = 0; f < 12; f++) {
            Check.due(false, x.isDead(f));
        }
        x.addConstraint(Lines.REQUIRE, 1, 2);
        x.addConstraint(Lines.EXCLUDE, 11, 0);
        for (int f = 0; f < 12; f++) {
            Check.due(f == 1 || f == 11, x.isDead(f));
        }
    }

    private static void noCore() {
        checkOnNone(x -> {
            for (int f = 0; f < 7; f++) {
                Check.due(false, x.isCore(f));
            }
        });
    }

    private static void coreButForOne() {
        FeatureAnalyzer x = Lines.flat(2, Lines.SOME);
        Check.due(3, x.productCount());
        Check.due(false, x.isCore(1));
        Check.due(false, x.isCore(2));
        x.addConstraint(Lines.REQUIRE, 1, 2);
        Check.due(false, x.isCore(1));
        Check.due(true, x.isCore(2));
        FeatureAnalyzer y = Lines.flat(11, Lines.MUST);
        for (int f = 0; f < 12; f++) {
            Check.due(true, y.isCore(f));
        }
    }

    private static void rootIsNotFree() {
        for (Line line : Line.values()) {
            Check.due(false, line.make().isFalselyFree(0));
        }
        FeatureAnalyzer x = Lines.flat(1, Lines.MAY);
        x.addConstraint(Lines.REQUIRE, 0, 0);
        Check.due(false, x.isFalselyFree(0));
    }

    private static void onlyMayIsFree() {
        FeatureAnalyzer x = Lines.flat(1, Lines.MAY);
        x.addConstraint(Lines.REQUIRE, 0, 1);
        Check.due(true, x.isFalselyFree(1));
        for (int relation = 0; relation <= 3; relation++) {
            x.setRelation(1, relation);
            Check.due(relation == Lines.MAY, x.isFalselyFree(1));
        }
    }

    private static void deadParent() {
        FeatureAnalyzer x = Lines.chain(3, Lines.MAY);
        x.addConstraint(Lines.REQUIRE, 1, 2);
        Check.due(true, x.isFalselyFree(2));
        x.addConstraint(Lines.EXCLUDE, 0, 2);
        Check.due(false, x.isFalselyFree(2));
        Check.due(1, x.productCount());
    }

    private static void noneFree() {
        checkOnNone(x -> Check.due(false, x.isFalselyFree(2)));
        FeatureAnalyzer y = Lines.flat(2, Lines.MAY);
        y.addConstraint(Lines.EXCLUDE, 0, 0);
        Check.due(false, y.isFalselyFree(1));
        Check.due(false, y.isFalselyFree(2));
    }

    private static void freeForOne() {
        FeatureAnalyzer x = Lines.flat(2, Lines.MAY);
        x.addConstraint(Lines.REQUIRE, 2, 1);
        Check.due(3, x.productCount());
        Check.due(false, x.isFalselyFree(1));
        x.addConstraint(Lines.REQUIRE, 0, 2);
        Check.due(true, x.isFalselyFree(1));
        Check.due(true, x.isFalselyFree(2));
        FeatureAnalyzer y = Lines.chain(3, Lines.MAY);
        y.addConstraint(Lines.REQUIRE, 0, 1);
        Check.due(true, y.isFalselyFree(1));
        Check.due(false, y.isFalselyFree(2));
    }

    private static void togetherWithItself() {
        FeatureAnalyzer x = Line.FULL.make();
        for (int f = 0; f < 12; f++) {
            Check.due(true, x.areTogether(f, f));
        }
        Check.due(true, new FeatureAnalyzer().areTogether(0, 0));
        FeatureAnalyzer large = Lines.flat(11, Lines.MAY);
        Check.due(true, large.areTogether(0, 0));
        Check.due(true, large.areTogether(11, 11));
    }

    private static void togetherInNone() {
        checkOnNone(x -> {
            for (int f = 0; f < 7; f++) {
                Check.due(true, x.areTogether(0, f));
                Check.due(true, x.areTogether(f, 6));
            }
        });
    }

    private static void togetherButForOne() {
        FeatureAnalyzer x = Lines.flat(2, Lines.SOME);
        x.addConstraint(Lines.REQUIRE, 1, 2);
        Check.due(2, x.productCount());
        Check.due(false, x.areTogether(1, 2));
        Check.due(false, x.areTogether(2, 1));
        Check.due(true, x.areTogether(0, 2));
        x.addConstraint(Lines.REQUIRE, 2, 1);
        Check.due(true, x.areTogether(1, 2));
        Check.due(true, x.areTogether(2, 1));
    }

    private static void togetherDead() {
        FeatureAnalyzer x = Lines.flat(3, Lines.MAY);
        x.addConstraint(Lines.EXCLUDE, 1, 1);
        x.addConstraint(Lines.EXCLUDE, 0, 3);
        Check.due(true, x.areTogether(1, 3));
        Check.due(false, x.areTogether(1, 2));
        Check.due(false, x.areTogether(0, 3));
        Check.due(3, x.bundles());
    }

    private static void oneBundle() {
        Check.due(1, new FeatureAnalyzer().bundles());
        Check.due(1, Lines.flat(11, Lines.MUST).bundles());
        Check.due(1, Lines.chain(12, Lines.SOME).bundles());
    }

    private static void twelveBundles() {
        Check.due(12, Lines.flat(11, Lines.MAY).bundles());
        Check.due(12, Lines.flat(11, Lines.ONE).bundles());
        Check.due(12, Lines.chain(12, Lines.MAY).bundles());
        FeatureAnalyzer x = Lines.flat(11, Lines.MAY);
        x.setRelation(11, Lines.MUST);
        Check.due(11, x.bundles());
    }

    private static void bundlesOfNone() {
        checkOnNone(x -> Check.due(1, x.bundles()));
        FeatureAnalyzer y = Lines.flat(11, Lines.MAY);
        y.addConstraint(Lines.EXCLUDE, 0, 0);
        Check.due(1, y.bundles());
    }

    private static void blameNone() {
        FeatureAnalyzer x = Line.FULL.make();
        for (int f = 0; f < 12; f++) {
            Check.due(x.isDead(f), x.blame(f) != 0);
        }
        Check.due(0, x.blame(0));
        Check.due(0, new FeatureAnalyzer().blame(0));
        Check.due(0, Lines.flat(11, Lines.ONE).blame(11));
    }

    private static void blameNoCandidate() {
        FeatureAnalyzer x = Lines.flat(1, Lines.MAY);
        x.setWorth(0, 1, 0);
        x.setBudget(0);
        x.decide(1, Lines.OUT);
        x.addConstraint(Lines.REQUIRE, 0, 1);
        Check.due(0, x.candidateCount());
        Check.due(0, x.blame(1));
        Check.due(0, x.blame(0));
    }

    private static void blameFewest() {
        FeatureAnalyzer x = Lines.flat(1, Lines.MAY);
        x.addFeature(1, Lines.ONE);
        x.addFeature(1, Lines.ONE);
        x.addConstraint(Lines.EXCLUDE, 2, 2);
        x.addConstraint(Lines.EXCLUDE, 0, 2);
        x.addConstraint(Lines.EXCLUDE, 0, 3);
        Check.due(Lines.set(2), x.blame(1));
        Check.due(Lines.set(0, 1), x.blame(2));
        Check.due(Lines.set(2), x.blame(3));
    }

    private static void blameSmallest() {
        FeatureAnalyzer x = Lines.flat(2, Lines.MAY);
        x.addConstraint(Lines.REQUIRE, 0, 0);
        x.addConstraint(Lines.EXCLUDE, 2, 2);
        x.addConstraint(Lines.REQUIRE, 1, 2);
        Check.due(Lines.set(1), x.blame(1));
        FeatureAnalyzer y = Lines.flat(2, Lines.MAY);
        y.addConstraint(Lines.REQUIRE, 0, 0);
        y.addConstraint(Lines.REQUIRE, 1, 2);
        y.addConstraint(Lines.EXCLUDE, 2, 2);
        Check.due(Lines.set(1), y.blame(1));
    }

    private static void blameSmallestOfTwo() {
        int[][] sides = {{2, 3, 3, 2}, {3, 2, 2, 3}};
        for (int[] side : sides) {
            FeatureAnalyzer x = Lines.flat(1, Lines.MAY);
            x.addFeature(1, Lines.ONE);
            x.addFeature(1, Lines.ONE);
            for (int feature : side) {
                x.addConstraint(Lines.EXCLUDE, 0, feature);
            }
            Check.due(Lines.set(1, 2), x.blame(1));
            Check.due(Lines.set(0, 3), x.blame(side[0]));
        }
    }

    private static void blameOn() {
        FeatureAnalyzer x = Lines.flat(1, Lines.MAY);
        x.addConstraint(Lines.EXCLUDE, 1, 1);
        x.addConstraint(Lines.EXCLUDE, 0, 1);
        x.addConstraint(Lines.EXCLUDE, 1, 0);
        Check.due(7, x.blame(1));
        x.turn(1, false);
        Check.due(5, x.blame(1));
        x.turn(0, false);
        Check.due(4, x.blame(1));
        x.turn(2, false);
        Check.due(0, x.blame(1));
    }

    private static void blameAll() {
        FeatureAnalyzer x = Lines.flat(11, Lines.MAY);
        for (int k = 0; k < 10; k++) {
            x.addConstraint(Lines.EXCLUDE, 0, 0);
        }
        Check.due(1023, x.blame(0));
        Check.due(1023, x.blame(11));
    }

    private static void blameLast() {
        FeatureAnalyzer x = Lines.flat(11, Lines.MAY);
        for (int k = 0; k < 9; k++) {
            x.addConstraint(Lines.REQUIRE, 11, 1);
        }
        x.addConstraint(Lines.EXCLUDE, 11, 0);
        Check.due(512, x.blame(11));
        Check.due(0, x.blame(1));
    }
}

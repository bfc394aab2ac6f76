/** Promises 12 to 22: configurations and products. */
final class ProductTests {
    private ProductTests() {
    }

    static void addTo(Suite suite) {
        suite.test("12 violations counts the rule of the feature 0", ProductTests::violationsRoot);
        suite.test("12 violations counts a rule for each parent that lacks", ProductTests::violationsParents);
        suite.test("12 violations counts MUST for each feature", ProductTests::violationsMust);
        suite.test("12 violations counts ONE and SOME once for a parent", ProductTests::violationsGroups);
        suite.test("12 violations counts constraints that are on", ProductTests::violationsConstraints);
        suite.test("12 13 14 what is no configuration is refused", ProductTests::noConfiguration);
        suite.test("13 costOf sums the costs", ProductTests::costOfSums);
        suite.test("14 valueOf sums the values", ProductTests::valueOfSums);
        suite.test("15 productCount counts", ProductTests::productCountCounts);
        suite.test("15 productCount is kept up with each change", ProductTests::productCountFollows);
        suite.test("16 product tells them in ascending order", ProductTests::productInOrder);
        suite.test("16 product refuses", ProductTests::productRefuses);
        suite.test("17 isDead", ProductTests::isDeadTells);
        suite.test("18 isCore", ProductTests::isCoreTells);
        suite.test("19 isFalselyFree", ProductTests::isFalselyFreeTells);
        suite.test("19 isFalselyFree wants MAY and a parent that is had", ProductTests::isFalselyFreeEdges);
        suite.test("20 areTogether", ProductTests::areTogetherTells);
        suite.test("21 bundles", ProductTests::bundlesCounts);
        suite.test("15 to 21 do not depend on decisions and the budget", ProductTests::productsUndecided);
        suite.test("17 to 22 refuse what is no feature", ProductTests::noFeature);
        suite.test("22 blame is empty for what can be had", ProductTests::blameNothing);
        suite.test("22 blame looks at all of a large line", ProductTests::blameInLargeLine);
        suite.test("22 blame takes as few as can be", ProductTests::blameFewest);
        suite.test("22 blame takes the smallest number of several", ProductTests::blameSmallest);
        suite.test("22 blame leaves out what is off", ProductTests::blameOff);
        suite.test("22 blame does not depend on decisions", ProductTests::blameUndecided);
    }

    private static void violationsRoot() {
        FeatureAnalyzer x = Lines.flat(1, Lines.MUST);
        Check.due(1, x.violations(0));
        Check.due(1, x.violations(1));
        Check.due(2, x.violations(2));
        Check.due(0, x.violations(3));
    }

    private static void violationsParents() {
        FeatureAnalyzer x = Lines.chain(4, Lines.MAY);
        Check.due(0, x.violations(15));
        Check.due(1, x.violations(Lines.set(0, 2)));
        Check.due(1, x.violations(Lines.set(0, 2, 3)));
        Check.due(3, x.violations(Lines.set(1, 3)));
        Check.due(2, x.violations(Lines.set(3)));
        FeatureAnalyzer y = Lines.flat(3, Lines.MAY);
        Check.due(4, y.violations(Lines.set(1, 2, 3)));
    }

    private static void violationsMust() {
        FeatureAnalyzer x = Lines.flat(3, Lines.MUST);
        Check.due(3, x.violations(1));
        Check.due(1, x.violations(Lines.set(0, 1, 3)));
        Check.due(0, x.violations(15));
        x.addFeature(3, Lines.MUST);
        Check.due(1, x.violations(15));
        Check.due(1, x.violations(Lines.set(0, 1, 2)));
    }

    private static void violationsGroups() {
        FeatureAnalyzer x = new FeatureAnalyzer();
        x.addFeature(0, Lines.ONE);
        x.addFeature(0, Lines.ONE);
        x.addFeature(0, Lines.ONE);
        x.addFeature(0, Lines.SOME);
        x.addFeature(0, Lines.SOME);
        Check.due(2, x.violations(1));
        Check.due(1, x.violations(Lines.set(0, 1)));
        Check.due(0, x.violations(Lines.set(0, 1, 4)));
        Check.due(0, x.violations(Lines.set(0, 3, 4, 5)));
        Check.due(1, x.violations(Lines.set(0, 1, 2, 5)));
        Check.due(1, x.violations(Lines.set(0, 1, 2, 3, 5)));
        Check.due(1, x.violations(Lines.set(0, 4, 5)));
        x.addFeature(5, Lines.ONE);
        Check.due(1, x.violations(Lines.set(0, 1, 5)));
        Check.due(0, x.violations(Lines.set(0, 1, 4)));
        Check.due(0, x.violations(Lines.set(0, 1, 5, 6)));
    }

    private static void violationsConstraints() {
        FeatureAnalyzer x = Lines.flat(2, Lines.MAY);
        x.addConstraint(Lines.REQUIRE, 1, 2);
        x.addConstraint(Lines.EXCLUDE, 2, 2);
        x.addConstraint(Lines.REQUIRE, 1, 1);
        x.addConstraint(Lines.EXCLUDE, 1, 2);
        Check.due(0, x.violations(1));
        Check.due(1, x.violations(3));
        Check.due(1, x.violations(5));
        Check.due(2, x.violations(7));
        Check.due(3, x.violations(Lines.set(1)));
        x.turn(1, false);
        Check.due(1, x.violations(7));
        Check.due(0, x.violations(5));
        x.dropConstraint();
        Check.due(0, x.violations(7));
    }

    private static void noConfiguration() {
        FeatureAnalyzer x = Lines.flat(2, Lines.MAY);
        int[] wrong = {-1, 8, 9, Integer.MIN_VALUE, Integer.MAX_VALUE};
        for (int configuration : wrong) {
            Check.dueThrow(Check.ARGUMENT, x, () -> x.violations(configuration));
            Check.dueThrow(Check.ARGUMENT, x, () -> x.costOf(configuration));
            Check.dueThrow(Check.ARGUMENT, x, () -> x.valueOf(configuration));
            Check.dueThrow(Check.ARGUMENT, x, () -> x.nearest(configuration));
        }
        Check.due(0, x.violations(7));
        x.addFeature(0, Lines.MAY);
        Check.due(0, x.violations(9));
        FeatureAnalyzer full = Lines.flat(11, Lines.MUST);
        Check.due(0, full.violations(4095));
        Check.dueThrow(Check.ARGUMENT, full, () -> full.violations(4096));
    }

    private static void costOfSums() {
        FeatureAnalyzer x = Lines.flat(11, Lines.MAY);
        for (int f = 0; f < 12; f++) {
            x.setWorth(f, 1000, f);
        }
        Check.due(12000, x.costOf(4095));
        Check.due(0, x.costOf(0));
        Check.due(1000, x.costOf(2048));
        x.setWorth(11, 3, 11);
        Check.due(1003, x.costOf(Lines.set(3, 11)));
    }

    private static void valueOfSums() {
        FeatureAnalyzer x = Lines.flat(11, Lines.MAY);
        for (int f = 0; f < 12; f++) {
            x.setWorth(f, f, 1000);
        }
        Check.due(12000, x.valueOf(4095));
        Check.due(0, x.valueOf(0));
        Check.due(1000, x.valueOf(1));
        x.setWorth(0, 0, 3);
        Check.due(1003, x.valueOf(Lines.set(0, 11)));
    }

    private static void productCountCounts() {
        Check.due(8, Lines.phone().productCount());
        Check.due(2048, Lines.flat(11, Lines.MAY).productCount());
        Check.due(1, Lines.flat(11, Lines.MUST).productCount());
        Check.due(11, Lines.flat(11, Lines.ONE).productCount());
        Check.due(2047, Lines.flat(11, Lines.SOME).productCount());
        Check.due(12, Lines.chain(12, Lines.MAY).productCount());
        FeatureAnalyzer x = Lines.phone();
        x.addConstraint(Lines.EXCLUDE, 0, 1);
        Check.due(0, x.productCount());
    }

    private static void productCountFollows() {
        FeatureAnalyzer x = Lines.phone();
        Check.due(8, x.productCount());
        x.addFeature(5, Lines.MAY);
        Check.due(12, x.productCount());
        x.addConstraint(Lines.REQUIRE, 3, 2);
        Check.due(11, x.productCount());
        x.turn(0, false);
        Check.due(12, x.productCount());
        x.turn(0, true);
        Check.due(11, x.productCount());
        x.setRelation(7, Lines.MUST);
        Check.due(7, x.productCount());
        x.dropConstraint();
        Check.due(8, x.productCount());
    }

    private static void productInOrder() {
        FeatureAnalyzer x = Lines.phone();
        int[] want = {
            Lines.set(0, 1, 3), Lines.set(0, 1, 4),
            Lines.set(0, 1, 2, 3, 5), Lines.set(0, 1, 2, 4, 5),
            Lines.set(0, 1, 2, 3, 6), Lines.set(0, 1, 2, 4, 6),
            Lines.set(0, 1, 2, 3, 5, 6), Lines.set(0, 1, 2, 4, 5, 6)};
        for (int i = 0; i < want.length; i++) {
            Check.due(want[i], x.product(i));
        }
        for (int from = 0; from < 2048; from += 256) {
            FeatureAnalyzer y = Lines.flat(11, Lines.MAY);
            for (int i = from; i < from + 256; i++) {
                Check.due(2L * i + 1, y.product(i));
            }
        }
    }

    private static void productRefuses() {
        FeatureAnalyzer x = Lines.phone();
        Check.dueThrow(Check.INDEX, x, () -> x.product(-1));
        Check.dueThrow(Check.INDEX, x, () -> x.product(8));
        x.decide(0, Lines.OUT);
        Check.due(11, x.product(0));
        x.addConstraint(Lines.EXCLUDE, 0, 0);
        Check.dueThrow(Check.INDEX, x, () -> x.product(0));
        FeatureAnalyzer full = Lines.flat(11, Lines.MAY);
        Check.dueThrow(Check.INDEX, full, () -> full.product(2048));
    }

    private static void isDeadTells() {
        FeatureAnalyzer x = Lines.flat(2, Lines.MAY);
        Check.due(false, x.isDead(0));
        Check.due(false, x.isDead(1));
        x.addConstraint(Lines.EXCLUDE, 0, 1);
        Check.due(false, x.isDead(0));
        Check.due(true, x.isDead(1));
        Check.due(false, x.isDead(2));
        x.decide(2, Lines.OUT);
        Check.due(false, x.isDead(2));
        x.addConstraint(Lines.EXCLUDE, 0, 0);
        Check.due(true, x.isDead(0));
        Check.due(true, x.isDead(2));
    }

    private static void isCoreTells() {
        FeatureAnalyzer x = Lines.phone();
        Check.due(true, x.isCore(0));
        Check.due(true, x.isCore(1));
        Check.due(false, x.isCore(2));
        x.addConstraint(Lines.REQUIRE, 1, 2);
        Check.due(true, x.isCore(2));
        Check.due(false, x.isCore(5));
        x.decide(5, Lines.IN);
        Check.due(false, x.isCore(5));
        x.addConstraint(Lines.EXCLUDE, 0, 0);
        Check.due(false, x.isCore(0));
    }

    private static void isFalselyFreeTells() {
        FeatureAnalyzer x = Lines.flat(2, Lines.MAY);
        x.addFeature(1, Lines.MAY);
        Check.due(false, x.isFalselyFree(3));
        x.addConstraint(Lines.REQUIRE, 1, 3);
        Check.due(true, x.isFalselyFree(3));
        Check.due(false, x.isFalselyFree(1));
        Check.due(false, x.isFalselyFree(2));
        x.addConstraint(Lines.REQUIRE, 0, 2);
        Check.due(true, x.isFalselyFree(2));
        x.setRelation(2, Lines.MUST);
        Check.due(false, x.isFalselyFree(2));
    }

    private static void isFalselyFreeEdges() {
        FeatureAnalyzer x = Lines.flat(1, Lines.MAY);
        x.addFeature(1, Lines.MAY);
        Check.due(false, x.isFalselyFree(0));
        x.addConstraint(Lines.REQUIRE, 1, 2);
        Check.due(true, x.isFalselyFree(2));
        x.addConstraint(Lines.EXCLUDE, 0, 1);
        Check.due(false, x.isFalselyFree(2));
        x.dropConstraint();
        x.setRelation(2, Lines.ONE);
        Check.due(false, x.isFalselyFree(2));
        x.setRelation(2, Lines.SOME);
        Check.due(false, x.isFalselyFree(2));
    }

    private static void areTogetherTells() {
        FeatureAnalyzer x = Lines.phone();
        Check.due(true, x.areTogether(0, 1));
        Check.due(true, x.areTogether(1, 0));
        Check.due(true, x.areTogether(2, 2));
        Check.due(false, x.areTogether(0, 2));
        Check.due(false, x.areTogether(3, 4));
        Check.due(false, x.areTogether(2, 5));
        x.addConstraint(Lines.EXCLUDE, 1, 6);
        Check.due(true, x.areTogether(2, 5));
        Check.due(true, x.areTogether(5, 2));
        x.addConstraint(Lines.EXCLUDE, 0, 0);
        Check.due(true, x.areTogether(3, 4));
    }

    private static void bundlesCounts() {
        FeatureAnalyzer x = Lines.phone();
        Check.due(6, x.bundles());
        x.addConstraint(Lines.EXCLUDE, 1, 6);
        Check.due(5, x.bundles());
        x.addConstraint(Lines.EXCLUDE, 1, 5);
        Check.due(4, x.bundles());
        x.addConstraint(Lines.EXCLUDE, 0, 0);
        Check.due(1, x.bundles());
        Check.due(12, Lines.flat(11, Lines.MAY).bundles());
        Check.due(1, Lines.flat(11, Lines.MUST).bundles());
        Check.due(1, new FeatureAnalyzer().bundles());
    }

    private static void productsUndecided() {
        FeatureAnalyzer x = Lines.flat(2, Lines.MAY);
        x.addFeature(1, Lines.MAY);
        x.decide(1, Lines.IN);
        x.decide(2, Lines.IN);
        x.decide(3, Lines.IN);
        Check.due(1, x.candidateCount());
        Check.due(6, x.productCount());
        Check.due(1, x.product(0));
        Check.due(false, x.isDead(1));
        Check.due(false, x.isCore(1));
        Check.due(false, x.isFalselyFree(2));
        Check.due(false, x.isFalselyFree(3));
        Check.due(false, x.areTogether(1, 2));
        Check.due(4, x.bundles());
        x.setWorth(0, 1, 0);
        x.setBudget(0);
        Check.due(0, x.candidateCount());
        Check.due(6, x.productCount());
        Check.due(true, x.isCore(0));
        Check.due(false, x.isDead(3));
        Check.due(false, x.areTogether(1, 3));
        Check.due(4, x.bundles());
        x.addConstraint(Lines.REQUIRE, 1, 3);
        Check.due(true, x.isFalselyFree(3));
        Check.due(false, x.isFalselyFree(2));
        x.reopen();
        x.setBudget(-1);
        x.decide(3, Lines.OUT);
        Check.due(2, x.candidateCount());
        Check.due(true, x.isFalselyFree(3));
        Check.due(false, x.isDead(3));
    }

    private static void noFeature() {
        FeatureAnalyzer x = Lines.phone();
        int[] wrong = {-1, 7, 12, Integer.MIN_VALUE, Integer.MAX_VALUE};
        for (int feature : wrong) {
            Check.dueThrow(Check.INDEX, x, () -> x.isDead(feature));
            Check.dueThrow(Check.INDEX, x, () -> x.isCore(feature));
            Check.dueThrow(Check.INDEX, x, () -> x.isFalselyFree(feature));
            Check.dueThrow(Check.INDEX, x, () -> x.areTogether(feature, 0));
            Check.dueThrow(Check.INDEX, x, () -> x.areTogether(0, feature));
            Check.dueThrow(Check.INDEX, x, () -> x.blame(feature));
            Check.dueThrow(Check.INDEX, x, () -> x.share(feature));
        }
    }

    private static void blameNothing() {
        FeatureAnalyzer x = Lines.phone();
        Check.due(0, x.blame(0));
        x.addConstraint(Lines.EXCLUDE, 1, 6);
        Check.due(0, x.blame(5));
        Check.due(1, x.blame(6));
    }

    private static void blameInLargeLine() {
        FeatureAnalyzer x = Lines.flat(11, Lines.MAY);
        x.addConstraint(Lines.EXCLUDE, 0, 5);
        x.addConstraint(Lines.REQUIRE, 11, 5);
        Check.due(0, x.blame(10));
        Check.due(1, x.blame(5));
        Check.due(1, x.blame(11));
        Check.due(512, x.productCount());
    }

    private static void blameFewest() {
        FeatureAnalyzer x = Lines.flat(3, Lines.MAY);
        x.addConstraint(Lines.REQUIRE, 1, 2);
        x.addConstraint(Lines.REQUIRE, 1, 3);
        x.addConstraint(Lines.EXCLUDE, 0, 2);
        x.addConstraint(Lines.EXCLUDE, 0, 3);
        x.addConstraint(Lines.EXCLUDE, 0, 1);
        Check.due(Lines.set(2), x.blame(2));
        Check.due(Lines.set(3), x.blame(3));
        Check.due(Lines.set(0, 1, 4), x.blame(1));
        x.addConstraint(Lines.EXCLUDE, 3, 3);
        Check.due(Lines.set(3, 5), x.blame(3));
        x.addConstraint(Lines.EXCLUDE, 0, 0);
        Check.due(Lines.set(6), x.blame(0));
        Check.due(Lines.set(3, 5, 6), x.blame(3));
    }

    private static void blameSmallest() {
        FeatureAnalyzer x = Lines.flat(2, Lines.MAY);
        x.addConstraint(Lines.EXCLUDE, 2, 2);
        x.addConstraint(Lines.REQUIRE, 1, 2);
        Check.due(1, x.blame(1));
        FeatureAnalyzer y = Lines.flat(2, Lines.MAY);
        y.addConstraint(Lines.REQUIRE, 1, 2);
        y.addConstraint(Lines.EXCLUDE, 2, 2);
        Check.due(1, y.blame(1));
        FeatureAnalyzer z = Lines.flat(2, Lines.MAY);
        z.addConstraint(Lines.REQUIRE, 1, 2);
        z.addConstraint(Lines.REQUIRE, 1, 2);
        z.addConstraint(Lines.EXCLUDE, 2, 2);
        Check.due(Lines.set(2), z.blame(1));
    }

    private static void blameOff() {
        FeatureAnalyzer x = Lines.flat(1, Lines.MAY);
        x.addConstraint(Lines.EXCLUDE, 1, 1);
        x.addConstraint(Lines.EXCLUDE, 0, 1);
        x.turn(0, false);
        Check.due(Lines.set(1), x.blame(1));
        x.turn(1, false);
        Check.due(0, x.blame(1));
        x.turn(0, true);
        x.turn(1, true);
        Check.due(Lines.set(0, 1), x.blame(1));
    }

    private static void blameUndecided() {
        FeatureAnalyzer x = Lines.flat(1, Lines.MAY);
        x.decide(1, Lines.OUT);
        x.setWorth(0, 5, 0);
        x.setBudget(0);
        Check.due(0, x.candidateCount());
        Check.due(0, x.blame(1));
        x.addConstraint(Lines.EXCLUDE, 1, 0);
        Check.due(1, x.blame(1));
    }
}

/** The sentences of 'Description' that name a boundary; they bind promises 2 to 37. */
final class DescriptionEdges {
    private DescriptionEdges() {
    }

    static void addTo(Suite suite) {
        featureTests(suite);
        ruleTests(suite);
        suite.test("Description (9): Each feature is OPEN (0, at first)", DescriptionEdges::openAtFirst);
        suite.test("Description (11): There is a budget, a cost, or none (at first)", DescriptionEdges::noBudgetAtFirst);
        suite.test("Description (23): whose cost is not greater than the budget (just the budget, one more)", DescriptionEdges::costIsBudget);
        suite.test("Description (23): has all features that are IN, and none that is OUT", DescriptionEdges::inAndOut);
        suite.test("Description (15 to 22): Products do not depend on decisions and on the budget", DescriptionEdges::productsUndecided);
        suite.test("Description (16, 24): numbered from 0 in ascending order of the numbers that tell them", DescriptionEdges::ascending);
        suite.test("Description (34): For two different features there are four pairs", DescriptionEdges::fourPairs);
        suite.test("Description (34): A pair is possible if a candidate shows it (each of the four alone)", DescriptionEdges::onePairEach);
        suite.test("Description (2 to 36): A method that throws an exception changes nothing (one after the other)", DescriptionEdges::refusedChangesNothing);
        suite.test("Description (2 to 9): If several exceptions apply, the one that is named first is thrown", DescriptionEdges::namedFirst);
    }

    private static void featureTests(Suite suite) {
        suite.test("Description (2): There are at most 12 (the twelfth one is as any)", DescriptionEdges::twelfthFeature);
        suite.test("Description (2): numbered from 0 in the order of their creation", DescriptionEdges::numbersOfFeatures);
        suite.test("Description (1): the feature 0 is there from the beginning on", DescriptionEdges::rootFromBeginning);
        suite.test("Description (2): a parent, a feature with a smaller number (not itself)", DescriptionEdges::notItsOwnParent);
        suite.test("Description (2): a relation to it: 0 MUST, 1 MAY, 2 ONE, 3 SOME", DescriptionEdges::relations);
        suite.test("Description (4): Each feature has a cost and a value (both 0 at first)", DescriptionEdges::worthAtFirst);
        suite.test("Description (13, 14): its cost and its value are the sums of those of its features", DescriptionEdges::sums);
        suite.test("Description (12): told as the sum of the powers 2^k of their numbers k", DescriptionEdges::powers);
        suite.test("Description (5): There are at most 10 constraints (the tenth one is as any)", DescriptionEdges::tenthConstraint);
        suite.test("Description (5): each is on or off (on, at first)", DescriptionEdges::onAtFirst);
    }

    private static void ruleTests(Suite suite) {
        suite.test("Description (12): It has the feature 0", DescriptionEdges::ruleOfRoot);
        suite.test("Description (12): if it has this feature, it has its parent", DescriptionEdges::ruleOfParent);
        suite.test("Description (12): MUST: if it has its parent, it has this feature", DescriptionEdges::ruleOfMust);
        suite.test("Description (12): ONE: exactly one of these children (none, one, two, all)", DescriptionEdges::ruleOfOne);
        suite.test("Description (12): ONE: exactly one of these children (there is but one)", DescriptionEdges::ruleOfOnlyOne);
        suite.test("Description (12): SOME: at least one of these children (none, one, two, all)", DescriptionEdges::ruleOfSome);
        suite.test("Description (12): SOME: at least one of these children (there is but one)", DescriptionEdges::ruleOfOnlySome);
        suite.test("Description (12): For each feature with children (no rule without this feature)", DescriptionEdges::noRuleWithoutFeature);
        suite.test("Description (12): REQUIRE: if it has a, it has b (a is b: never broken)", DescriptionEdges::ruleOfRequire);
        suite.test("Description (12): EXCLUDE: it does not have both a and b", DescriptionEdges::ruleOfExclude);
        suite.test("Description (12): EXCLUDE: if they are the same: it does not have it", DescriptionEdges::excludeItself);
        suite.test("Description (12): For each constraint that is on (what is off rules nothing)", DescriptionEdges::ruleOfOff);
        suite.test("Description (12): one rule for each constraint (the same one twice counts twice)", DescriptionEdges::sameConstraintTwice);
    }

    private static void twelfthFeature() {
        FeatureAnalyzer x = Lines.flat(11, Lines.MAY);
        x.setWorth(11, 7, 9);
        Check.due(7, x.costOf(2048));
        Check.due(9, x.valueOf(2048));
        Check.due(0, x.violations(2049));
        Check.due(false, x.isDead(11));
        Check.due(false, x.isCore(11));
        Check.due(false, x.areTogether(0, 11));
        Check.dueDouble(0.5, x.share(11));
        Check.due(Lines.OPEN, x.decide(11, Lines.IN));
        Check.due(2049, x.cheapest());
        Check.due(2049, x.nearest(0));
        x.addConstraint(Lines.EXCLUDE, 11, 11);
        Check.due(1, x.blame(11));
        Check.due(true, x.isDead(11));
        Check.due(Lines.MAY, x.setRelation(11, Lines.MUST));
    }

    private static void numbersOfFeatures() {
        FeatureAnalyzer x = new FeatureAnalyzer();
        Check.due(1, x.addFeature(0, Lines.MAY));
        Check.due(2, x.addFeature(0, Lines.MUST));
        Check.due(3, x.addFeature(1, Lines.MUST));
        Check.due(2, x.productCount());
        Check.due(Lines.set(0, 2), x.product(0));
        Check.due(Lines.set(0, 1, 2, 3), x.product(1));
    }

    private static void rootFromBeginning() {
        FeatureAnalyzer x = new FeatureAnalyzer();
        Check.due(Lines.OPEN, x.decide(0, Lines.IN));
        Check.due(true, x.setWorth(0, 1, 1));
        Check.due(0, x.addConstraint(Lines.REQUIRE, 0, 0));
        Check.due(1, x.costOf(1));
        Check.due(1, x.candidateCount());
    }

    private static void notItsOwnParent() {
        for (int n = 1; n < 12; n++) {
            FeatureAnalyzer x = Lines.flat(n - 1, Lines.MAY);
            int itself = n;
            Check.dueThrow(Check.INDEX, x, () -> x.addFeature(itself, Lines.MAY));
            Check.due(n, x.addFeature(n - 1, Lines.MAY));
        }
    }

    private static void relations() {
        int[] products = {1, 4, 2, 3};
        for (int relation = 0; relation <= 3; relation++) {
            Check.due(products[relation], Lines.flat(2, relation).productCount());
        }
    }

    private static void worthAtFirst() {
        FeatureAnalyzer x = new FeatureAnalyzer();
        x.setWorth(0, 5, 6);
        for (int f = 1; f < 12; f++) {
            x.addFeature(f - 1, Lines.MAY);
            Check.due(0, x.costOf(1 << f));
            Check.due(0, x.valueOf(1 << f));
            Check.due(false, x.setWorth(f, 0, 0));
        }
        Check.due(5, x.costOf(4095));
        Check.due(6, x.valueOf(4095));
    }

    private static void sums() {
        FeatureAnalyzer x = Lines.flat(11, Lines.MAY);
        for (int f = 0; f < 12; f++) {
            x.setWorth(f, f + 1, 1000 - f);
        }
        Check.due(0, x.costOf(0));
        Check.due(0, x.valueOf(0));
        Check.due(78, x.costOf(4095));
        Check.due(11934, x.valueOf(4095));
        Check.due(13, x.costOf(Lines.set(0, 11)));
        Check.due(1989, x.valueOf(Lines.set(0, 11)));
    }

    private static void powers() {
        FeatureAnalyzer x = Lines.flat(11, Lines.ONE);
        for (int k = 1; k < 12; k++) {
            Check.due(0, x.violations(1 + (1 << k)));
            Check.due(1 + (1 << k), x.product(k - 1));
        }
    }

    private static void tenthConstraint() {
        FeatureAnalyzer x = Lines.flat(11, Lines.MAY);
        for (int k = 0; k < 10; k++) {
            Check.due(k, x.addConstraint(Lines.EXCLUDE, 0, k + 1));
        }
        Check.due(2, x.productCount());
        Check.due(2049, x.product(1));
        Check.due(10, x.violations(2047));
        for (int k = 0; k < 10; k++) {
            Check.due(1 << k, x.blame(k + 1));
        }
        Check.due(true, x.turn(9, false));
        Check.due(4, x.productCount());
        Check.due(9, x.violations(2047));
        Check.due(9, x.dropConstraint());
        Check.due(4, x.productCount());
    }

    private static void onAtFirst() {
        FeatureAnalyzer x = Lines.flat(1, Lines.MAY);
        for (int k = 0; k < 10; k++) {
            x.addConstraint(k % 2, 1, 0);
            Check.due(true, x.turn(k, true));
        }
        for (int k = 9; k >= 0; k--) {
            x.turn(k, false);
            x.dropConstraint();
        }
        for (int k = 0; k < 10; k++) {
            x.addConstraint(Lines.EXCLUDE, 1, 0);
            Check.due(true, x.turn(k, true));
        }
    }

    private static void ruleOfRoot() {
        FeatureAnalyzer x = Lines.flat(11, Lines.MAY);
        Check.due(1, x.violations(0));
        Check.due(0, x.violations(1));
        Check.due(2, x.violations(2));
        Check.due(12, x.violations(4094));
    }

    private static void ruleOfParent() {
        FeatureAnalyzer x = Lines.chain(12, Lines.MAY);
        Check.due(0, x.violations(4095));
        Check.due(1, x.violations(4095 - 2));
        Check.due(0, x.violations(4095 - 2048));
        Check.due(1, x.violations(Lines.set(0, 11)));
        Check.due(5, x.violations(Lines.set(0, 1, 3, 5, 7, 9, 11)));
        Check.due(5, x.violations(Lines.set(0, 2, 4, 6, 8, 10)));
    }

    private static void ruleOfMust() {
        FeatureAnalyzer x = Lines.flat(11, Lines.MUST);
        Check.due(11, x.violations(1));
        Check.due(1, x.violations(2047));
        Check.due(0, x.violations(4095));
        FeatureAnalyzer y = Lines.chain(3, Lines.MUST);
        Check.due(1, y.violations(1));
        Check.due(1, y.violations(3));
        Check.due(2, y.violations(5));
        Check.due(1, y.violations(0));
    }

    private static void ruleOfOne() {
        FeatureAnalyzer x = Lines.flat(3, Lines.ONE);
        Check.due(1, x.violations(1));
        Check.due(0, x.violations(3));
        Check.due(0, x.violations(9));
        Check.due(1, x.violations(7));
        Check.due(1, x.violations(15));
    }

    private static void ruleOfOnlyOne() {
        FeatureAnalyzer x = Lines.flat(1, Lines.ONE);
        Check.due(1, x.violations(1));
        Check.due(0, x.violations(3));
        x.addFeature(0, Lines.MAY);
        Check.due(0, x.violations(7));
        Check.due(1, x.violations(5));
    }

    private static void ruleOfSome() {
        FeatureAnalyzer x = Lines.flat(3, Lines.SOME);
        Check.due(1, x.violations(1));
        Check.due(0, x.violations(3));
        Check.due(0, x.violations(9));
        Check.due(0, x.violations(7));
        Check.due(0, x.violations(15));
    }

    private static void ruleOfOnlySome() {
        FeatureAnalyzer x = Lines.flat(1, Lines.SOME);
        Check.due(1, x.violations(1));
        Check.due(0, x.violations(3));
        x.addFeature(0, Lines.MAY);
        Check.due(0, x.violations(7));
        Check.due(1, x.violations(5));
    }

    private static void noRuleWithoutFeature() {
        for (int relation = 2; relation <= 3; relation++) {
            FeatureAnalyzer x = Lines.flat(1, Lines.MAY);
            x.addFeature(1, relation);
            x.addFeature(1, relation);
            Check.due(0, x.violations(1));
            Check.due(1, x.violations(3));
            Check.due(0, x.violations(7));
            Check.due(2, x.violations(13));
        }
    }

    private static void ruleOfRequire() {
        FeatureAnalyzer x = Lines.flat(2, Lines.MAY);
        x.addConstraint(Lines.REQUIRE, 1, 2);
        Check.due(0, x.violations(1));
        Check.due(1, x.violations(3));
        Check.due(0, x.violations(5));
        Check.due(0, x.violations(7));
        FeatureAnalyzer y = Lines.flat(2, Lines.MAY);
        y.addConstraint(Lines.REQUIRE, 1, 1);
        y.addConstraint(Lines.REQUIRE, 0, 0);
        Check.due(4, y.productCount());
        Check.due(1, y.violations(0));
    }

    private static void ruleOfExclude() {
        for (int a = 1; a <= 2; a++) {
            FeatureAnalyzer x = Lines.flat(2, Lines.MAY);
            x.addConstraint(Lines.EXCLUDE, a, 3 - a);
            Check.due(0, x.violations(1));
            Check.due(0, x.violations(3));
            Check.due(0, x.violations(5));
            Check.due(1, x.violations(7));
        }
    }

    private static void excludeItself() {
        FeatureAnalyzer x = Lines.flat(2, Lines.MAY);
        x.addConstraint(Lines.EXCLUDE, 2, 2);
        Check.due(0, x.violations(3));
        Check.due(1, x.violations(5));
        Check.due(1, x.violations(7));
        Check.due(2, x.productCount());
        x.addConstraint(Lines.EXCLUDE, 0, 0);
        Check.due(1, x.violations(1));
        Check.due(0, x.productCount());
        Check.due(1, x.violations(0));
    }

    private static void ruleOfOff() {
        FeatureAnalyzer x = Lines.flat(1, Lines.MAY);
        x.addConstraint(Lines.EXCLUDE, 0, 0);
        x.addConstraint(Lines.REQUIRE, 0, 1);
        Check.due(2, x.violations(1));
        x.turn(0, false);
        Check.due(1, x.violations(1));
        x.turn(1, false);
        Check.due(0, x.violations(1));
        Check.due(2, x.productCount());
        x.turn(0, true);
        Check.due(1, x.violations(1));
    }

    private static void sameConstraintTwice() {
        FeatureAnalyzer x = Lines.flat(1, Lines.MAY);
        x.addConstraint(Lines.EXCLUDE, 0, 1);
        x.addConstraint(Lines.EXCLUDE, 0, 1);
        x.addConstraint(Lines.EXCLUDE, 1, 0);
        Check.due(3, x.violations(3));
        Check.due(0, x.violations(1));
    }

    private static void openAtFirst() {
        FeatureAnalyzer x = new FeatureAnalyzer();
        Check.due(Lines.OPEN, x.decide(0, Lines.IN));
        for (int f = 1; f < 12; f++) {
            x.addFeature(0, Lines.MAY);
            Check.due(Lines.OPEN, x.decide(f, Lines.IN));
        }
        Check.due(12, x.reopen());
    }

    private static void noBudgetAtFirst() {
        FeatureAnalyzer x = new FeatureAnalyzer();
        x.setWorth(0, 1000, 0);
        Check.due(1, x.candidateCount());
        Check.due(-1, x.setBudget(1000));
    }

    private static void costIsBudget() {
        FeatureAnalyzer x = Lines.flat(3, Lines.MAY);
        for (int f = 0; f < 4; f++) {
            x.setWorth(f, 10, 0);
        }
        int[] budgets = {0, 9, 10, 19, 20, 29, 30, 39, 40, 41};
        int[] candidates = {0, 0, 1, 1, 4, 4, 7, 7, 8, 8};
        for (int i = 0; i < budgets.length; i++) {
            x.setBudget(budgets[i]);
            Check.due(candidates[i], x.candidateCount());
        }
    }

    private static void inAndOut() {
        FeatureAnalyzer x = Lines.flat(3, Lines.MAY);
        x.decide(1, Lines.IN);
        x.decide(2, Lines.IN);
        Check.due(2, x.candidateCount());
        Check.due(7, x.candidate(0));
        x.decide(2, Lines.OUT);
        x.decide(3, Lines.OUT);
        Check.due(1, x.candidateCount());
        Check.due(3, x.candidate(0));
        x.decide(1, Lines.OUT);
        Check.due(1, x.candidate(0));
    }

    private static void productsUndecided() {
        FeatureAnalyzer x = Line.FULL.make();
        FeatureAnalyzer y = Line.FULL.make();
        y.setBudget(0);
        for (int f = 0; f < 12; f++) {
            y.decide(f, Lines.OUT);
        }
        Check.due(x.productCount(), y.productCount());
        for (int i = 0; i < x.productCount(); i++) {
            Check.due(x.product(i), y.product(i));
        }
        for (int f = 0; f < 12; f++) {
            Check.due(x.isDead(f), y.isDead(f));
            Check.due(x.isCore(f), y.isCore(f));
            Check.due(x.isFalselyFree(f), y.isFalselyFree(f));
            Check.due(x.areTogether(1, f), y.areTogether(1, f));
            Check.due(x.blame(f), y.blame(f));
        }
        Check.due(x.bundles(), y.bundles());
        Check.due(0, y.candidateCount());
    }

    private static void ascending() {
        for (Line line : Line.values()) {
            FeatureAnalyzer x = line.make();
            for (int i = 1; i < x.productCount(); i++) {
                Check.due(true, x.product(i - 1) < x.product(i));
            }
            for (int i = 1; i < x.candidateCount(); i++) {
                Check.due(true, x.candidate(i - 1) < x.candidate(i));
            }
        }
    }

    private static void fourPairs() {
        Check.due(2 + 2 + 4, Lines.flat(2, Lines.MAY).pairCount());
        Check.due(3 * 2 + 3 * 4, Lines.flat(3, Lines.MAY).pairCount());
        Check.due(2, Lines.flat(1, Lines.MAY).pairCount());
    }

    private static void onePairEach() {
        int[][] decisions = {{1, 1}, {1, 2}, {2, 1}, {2, 2}};
        for (int[] decision : decisions) {
            FeatureAnalyzer x = Lines.flat(2, Lines.MAY);
            x.decide(1, decision[0]);
            x.decide(2, decision[1]);
            Check.due(3, x.pairCount());
            Check.due(1, x.sampleSize());
        }
    }

    private static void refusedChangesNothing() {
        FeatureAnalyzer x = Line.FULL.make();
        Check.dueThrow(Check.STATE, () -> x.addFeature(0, Lines.MUST));
        Check.dueThrow(Check.ARGUMENT, () -> x.setRelation(1, 4));
        Check.dueThrow(Check.ARGUMENT, () -> x.setWorth(1, 0, 1001));
        Check.dueThrow(Check.STATE, () -> x.addConstraint(Lines.EXCLUDE, 0, 0));
        Check.dueThrow(Check.INDEX, () -> x.turn(10, false));
        Check.dueThrow(Check.ARGUMENT, () -> x.decide(1, 3));
        Check.dueThrow(Check.ARGUMENT, () -> x.setBudget(-2));
        Check.dueThrow(Check.ARGUMENT, () -> x.violations(4096));
        Check.dueThrow(Check.INDEX, () -> x.product(-1));
        Check.dueThrow(Check.INDEX, () -> x.blame(12));
        Check.dueThrow(Check.INDEX, () -> x.candidate(-1));
        Check.dueThrow(Check.INDEX, () -> x.share(-1));
        Check.dueThrow(Check.INDEX, () -> x.front(-1));
        Check.dueThrow(Check.ARGUMENT, () -> x.nearest(4096));
        Check.dueThrow(Check.INDEX, () -> x.sample(-1));
        Check.dueText(Answers.of(Line.FULL.make()), Answers.of(x));
    }

    private static void namedFirst() {
        FeatureAnalyzer x = Line.FULL.make();
        Check.dueThrow(Check.INDEX, () -> x.addFeature(12, 4));
        Check.dueThrow(Check.ARGUMENT, () -> x.addFeature(0, 4));
        Check.dueThrow(Check.INDEX, () -> x.setRelation(0, 4));
        Check.dueThrow(Check.INDEX, () -> x.setWorth(12, -1, 1001));
        Check.dueThrow(Check.ARGUMENT, () -> x.addConstraint(2, 12, 12));
        Check.dueThrow(Check.INDEX, () -> x.addConstraint(1, 12, 0));
        Check.dueThrow(Check.INDEX, () -> x.decide(12, 3));
    }
}

/** Promises 1 to 8: each sentence that names a boundary. */
final class BuildingEdges {
    private static final int[] RELATIONS = {Lines.MUST, Lines.MAY, Lines.ONE, Lines.SOME};

    private BuildingEdges() {
    }

    static void addTo(Suite suite) {
        suite.test("1: Creates an analyzer with the feature 0 alone (all that it answers)", BuildingEdges::newAnswers);
        suite.test("1: Creates an analyzer with the feature 0 alone (no other, no constraint)", BuildingEdges::newHasNothing);
        suite.test("1: Creates an analyzer (whatever other ones have)", BuildingEdges::newAfterOthers);
        addFeatureTests(suite);
        setRelationTests(suite);
        setWorthTests(suite);
        addConstraintTests(suite);
        turnTests(suite);
        dropConstraintTests(suite);
        suite.test("8: Returns the number of features (1 to 12, refused ones do not count)", BuildingEdges::featureCount);
    }

    private static void addFeatureTests(Suite suite) {
        Refusals.addNoFeature(suite, 2, " (parent)", (x, wrong) -> x.addFeature(wrong, Lines.MAY));
        Refusals.addRange(suite, "2: Throws IllegalArgumentException if relation is not 0 to 3",
                Check.ARGUMENT, 0, line -> 3, (x, wrong) -> x.addFeature(0, wrong));
        suite.test("2: Throws IllegalStateException if there are 12 features (any parent and relation)", BuildingEdges::noThirteenth);
        suite.test("2: Throws IllegalStateException if there are 12 features (with 11 it does not)", BuildingEdges::twelfth);
        suite.test("2: Throws what is named first: no such feature before relation", () ->
                Refusals.due(Check.INDEX, Line.BUSY::make, x -> x.addFeature(7, 4)));
        suite.test("2: Throws what is named first: no such feature before 12 features", () ->
                Refusals.due(Check.INDEX, Line.FULL::make, x -> x.addFeature(12, 0)));
        suite.test("2: Throws what is named first: relation before 12 features", () ->
                Refusals.due(Check.ARGUMENT, Line.FULL::make, x -> x.addFeature(11, -1)));
        suite.test("2: Throws what is named first: no such feature before both", () ->
                Refusals.due(Check.INDEX, Line.FULL::make, x -> x.addFeature(-1, 4)));
        suite.test("2: Returns its number (1 to 11, in the order of their creation)", BuildingEdges::featureNumbers);
        suite.test("2: parent: the least and the greatest one that is allowed", BuildingEdges::parents);
        suite.test("2: relation: each of 0 to 3 is allowed", BuildingEdges::relations);
    }

    private static void setRelationTests(Suite suite) {
        Refusals.addRange(suite, "3: Throws IndexOutOfBoundsException if there is no such feature,"
                + " or it is the feature 0 (just below the feature 1)",
                Check.INDEX, 1, line -> line.features() - 1, (x, wrong) -> x.setRelation(wrong, Lines.MAY));
        Refusals.addOne(suite, "3: Throws IndexOutOfBoundsException if there is no such feature (-1)",
                Check.INDEX, x -> x.setRelation(-1, Lines.MAY));
        Refusals.addOne(suite, "3: Throws what is named first: the feature 0 before relation",
                Check.INDEX, x -> x.setRelation(0, 4));
        suite.test("3: Throws what is named first: no such feature before relation", () ->
                Refusals.due(Check.INDEX, Line.BUSY::make, x -> x.setRelation(7, -1)));
        for (Refusals.Outside outside : Refusals.Outside.values()) {
            int wrong = outside.of(0, 3);
            suite.test("3: Throws IllegalArgumentException if relation is not 0 to 3 [" + outside + "]", () -> {
                Refusals.due(Check.ARGUMENT, Line.BUSY::make, x -> x.setRelation(1, wrong));
                Refusals.due(Check.ARGUMENT, Line.FULL::make, x -> x.setRelation(11, wrong));
            });
        }
        suite.test("3: Returns the relation before (each of 0 to 3 after each)", BuildingEdges::relationBefore);
        suite.test("3: feature: the least and the greatest one that is allowed", BuildingEdges::relationAtEnds);
    }

    private static void setWorthTests(Suite suite) {
        Refusals.addNoFeature(suite, 4, "", (x, wrong) -> x.setWorth(wrong, 1, 1));
        Refusals.addRange(suite, "4: Throws IllegalArgumentException if cost or value is not 0 to 1000 (cost)",
                Check.ARGUMENT, 0, line -> 1000, (x, wrong) -> x.setWorth(0, wrong, 1));
        Refusals.addRange(suite, "4: Throws IllegalArgumentException if cost or value is not 0 to 1000 (value)",
                Check.ARGUMENT, 0, line -> 1000, (x, wrong) -> x.setWorth(0, 1, wrong));
        Refusals.addOne(suite, "4: Throws IllegalArgumentException if cost or value is not 0 to 1000 (both)",
                Check.ARGUMENT, x -> x.setWorth(0, -1, 1001));
        Refusals.addOne(suite, "4: Throws what is named first: no such feature before cost",
                Check.INDEX, x -> x.setWorth(-1, 1001, 0));
        Refusals.addOne(suite, "4: Throws what is named first: no such feature before value",
                Check.INDEX, x -> x.setWorth(12, 0, -1));
        suite.test("4: cost and value: 0 and 1000 are allowed, for the feature 0 and the last one", BuildingEdges::worthEnds);
        suite.test("4: Returns whether one of them is another one than before (cost, value, both, none)", BuildingEdges::worthTells);
    }

    private static void addConstraintTests(Suite suite) {
        Refusals.addRange(suite, "5: Throws IllegalArgumentException if kind is not 0 or 1",
                Check.ARGUMENT, 0, line -> 1, (x, wrong) -> x.addConstraint(wrong, 0, 0));
        Refusals.addNoFeature(suite, 5, " (a)", (x, wrong) -> x.addConstraint(Lines.REQUIRE, wrong, 0));
        Refusals.addNoFeature(suite, 5, " (b)", (x, wrong) -> x.addConstraint(Lines.EXCLUDE, 0, wrong));
        suite.test("5: Throws IllegalStateException if there are 10 constraints (either kind)", () -> {
            Refusals.due(Check.STATE, Line.FULL::make, x -> x.addConstraint(Lines.REQUIRE, 0, 0));
            Refusals.due(Check.STATE, Line.FULL::make, x -> x.addConstraint(Lines.EXCLUDE, 11, 11));
        });
        suite.test("5: Throws IllegalStateException if there are 10 constraints (all off)", BuildingEdges::tenOff);
        suite.test("5: Throws IllegalStateException if there are 10 constraints (with 9 it does not)", BuildingEdges::tenth);
        Refusals.addOne(suite, "5: Throws what is named first: kind before no such feature",
                Check.ARGUMENT, x -> x.addConstraint(2, -1, 12));
        suite.test("5: Throws what is named first: kind before 10 constraints", () ->
                Refusals.due(Check.ARGUMENT, Line.FULL::make, x -> x.addConstraint(-1, 0, 0)));
        suite.test("5: Throws what is named first: no such feature before 10 constraints", () -> {
            Refusals.due(Check.INDEX, Line.FULL::make, x -> x.addConstraint(0, 12, 0));
            Refusals.due(Check.INDEX, Line.FULL::make, x -> x.addConstraint(1, 0, -1));
        });
        suite.test("5: Returns its number (0 to 9, again after a drop)", BuildingEdges::constraintNumbers);
        suite.test("5: a and b: the least and the greatest feature that is allowed", BuildingEdges::constraintEnds);
    }

    private static void turnTests(Suite suite) {
        Refusals.addRange(suite, "6: Throws IndexOutOfBoundsException if there is no such constraint (off)",
                Check.INDEX, 0, line -> line.constraints() - 1, (x, wrong) -> x.turn(wrong, false));
        Refusals.addRange(suite, "6: Throws IndexOutOfBoundsException if there is no such constraint (on)",
                Check.INDEX, 0, line -> line.constraints() - 1, (x, wrong) -> x.turn(wrong, true));
        suite.test("6: Throws IndexOutOfBoundsException if there is no such constraint (it was dropped)", BuildingEdges::turnDropped);
        suite.test("6: constraint: the least and the greatest one that is allowed", BuildingEdges::turnEnds);
        suite.test("6: Returns whether it was on before (on to on, on to off, off to off, off to on)", BuildingEdges::turnTells);
    }

    private static void dropConstraintTests(Suite suite) {
        suite.test("7: Throws IllegalStateException if there is none (there never was one)", () ->
                Refusals.due(Check.STATE, Line.ALONE::make, FeatureAnalyzer::dropConstraint));
        suite.test("7: Throws IllegalStateException if there is none (all were dropped)", () ->
                Refusals.due(Check.STATE, BuildingEdges::allDropped, FeatureAnalyzer::dropConstraint));
        suite.test("7: Returns the number of constraints that are left (9 to 0)", BuildingEdges::dropCounts);
        suite.test("7: Removes the constraint that was added last (off or on, and it rules no more)", BuildingEdges::dropLast);
    }

    private static void newAnswers() {
        FeatureAnalyzer x = new FeatureAnalyzer();
        Check.due(1, x.featureCount());
        Check.due(1, x.violations(0));
        Check.due(0, x.violations(1));
        Check.due(0, x.costOf(0) + x.costOf(1));
        Check.due(0, x.valueOf(0) + x.valueOf(1));
        Check.due(1, x.productCount());
        Check.due(1, x.product(0));
        Check.due(false, x.isDead(0));
        Check.due(true, x.isCore(0));
        Check.due(false, x.isFalselyFree(0));
        Check.due(true, x.areTogether(0, 0));
        Check.due(1, x.bundles());
        Check.due(0, x.blame(0));
        Check.due(1, x.candidateCount());
        Check.due(1, x.candidate(0));
        Check.due(1, x.forced());
        Check.due(0, x.ruledOut());
        Check.dueDouble(1.0, x.share(0));
        Check.due(-1, x.question());
        Check.due(1, x.cheapest());
        Check.due(1, x.best());
        Check.due(1, x.frontSize());
        Check.due(1, x.front(0));
        Check.due(1, x.nearest(0));
        Check.due(1, x.nearest(1));
        Check.due(0, x.pairCount());
        Check.due(0, x.sampleSize());
    }

    private static void newHasNothing() {
        FeatureAnalyzer x = new FeatureAnalyzer();
        Check.dueThrow(Check.INDEX, () -> x.isDead(1));
        Check.dueThrow(Check.INDEX, () -> x.turn(0, true));
        Check.dueThrow(Check.STATE, x::dropConstraint);
        Check.due(0, x.reopen());
        Check.due(-1, x.setBudget(-1));
        Check.due(false, x.setWorth(0, 0, 0));
        Check.due(Lines.OPEN, x.decide(0, Lines.OPEN));
        Check.due(0, x.addConstraint(Lines.REQUIRE, 0, 0));
        Check.due(1, x.addFeature(0, Lines.MAY));
    }

    private static void newAfterOthers() {
        String first = Answers.of(new FeatureAnalyzer());
        FeatureAnalyzer other = Line.FULL.make();
        FeatureAnalyzer x = new FeatureAnalyzer();
        other.setBudget(0);
        other.dropConstraint();
        Check.dueText(first, Answers.of(x));
    }

    private static void noThirteenth() {
        for (int relation : RELATIONS) {
            Refusals.due(Check.STATE, Line.FULL::make, x -> x.addFeature(0, relation));
            Refusals.due(Check.STATE, Line.FULL::make, x -> x.addFeature(11, relation));
        }
    }

    private static void twelfth() {
        for (int relation : RELATIONS) {
            FeatureAnalyzer x = Lines.flat(10, Lines.MAY);
            Check.due(11, x.addFeature(0, relation));
            Check.due(12, x.featureCount());
            Check.due(relation == Lines.MAY ? 2048 : 1024, x.productCount());
            Check.due(relation == Lines.MAY ? 1 : 2049, x.product(0));
        }
    }

    private static void featureNumbers() {
        FeatureAnalyzer x = new FeatureAnalyzer();
        for (int f = 1; f <= 11; f++) {
            Check.due(f, x.addFeature(f / 2, f % 4));
        }
    }

    private static void parents() {
        for (int features = 1; features <= 11; features++) {
            FeatureAnalyzer x = Lines.flat(features - 1, Lines.MAY);
            FeatureAnalyzer y = Lines.flat(features - 1, Lines.MAY);
            int added = 1 << features;
            Check.due(features, x.addFeature(0, Lines.MAY));
            Check.due(0, x.violations(1 + added));
            Check.due(features, y.addFeature(features - 1, Lines.MAY));
            Check.due(features == 1 ? 0 : 1, y.violations(1 + added));
            Check.due(0, y.violations(1 | added >> 1 | added));
        }
    }

    private static void relations() {
        int[] products = {1, 2, 1, 1};
        for (int relation : RELATIONS) {
            FeatureAnalyzer x = new FeatureAnalyzer();
            Check.due(1, x.addFeature(0, relation));
            Check.due(products[relation], x.productCount());
            Check.due(relation, x.setRelation(1, relation));
        }
    }

    private static void relationBefore() {
        for (int before : RELATIONS) {
            for (int after : RELATIONS) {
                FeatureAnalyzer x = Lines.flat(2, before);
                Check.due(before, x.setRelation(2, after));
                Check.due(after, x.setRelation(2, after));
                Check.due(before, x.setRelation(1, before));
            }
        }
    }

    private static void relationAtEnds() {
        FeatureAnalyzer x = Lines.flat(11, Lines.MAY);
        Check.due(Lines.MAY, x.setRelation(1, Lines.MUST));
        Check.due(1024, x.productCount());
        Check.due(3, x.product(0));
        Check.due(Lines.MAY, x.setRelation(11, Lines.SOME));
        Check.due(512, x.productCount());
        Check.due(2051, x.product(0));
        FeatureAnalyzer y = Lines.flat(1, Lines.MAY);
        Check.due(Lines.MAY, y.setRelation(1, Lines.ONE));
        Check.due(1, y.productCount());
    }

    private static void worthEnds() {
        FeatureAnalyzer x = Lines.flat(11, Lines.MAY);
        for (int f = 0; f < 12; f += 11) {
            Check.due(true, x.setWorth(f, 1000, 0));
            Check.due(1000, x.costOf(1 << f));
            Check.due(0, x.valueOf(1 << f));
            Check.due(true, x.setWorth(f, 0, 1000));
            Check.due(0, x.costOf(1 << f));
            Check.due(1000, x.valueOf(1 << f));
            Check.due(true, x.setWorth(f, 1000, 1000));
            Check.due(1000, x.costOf(1 << f));
            Check.due(true, x.setWorth(f, 0, 0));
            Check.due(0, x.valueOf(1 << f));
        }
    }

    private static void worthTells() {
        FeatureAnalyzer x = Lines.flat(2, Lines.MAY);
        Check.due(false, x.setWorth(2, 0, 0));
        Check.due(true, x.setWorth(2, 1, 0));
        Check.due(true, x.setWorth(2, 0, 0));
        Check.due(true, x.setWorth(2, 0, 1));
        Check.due(true, x.setWorth(2, 1, 0));
        Check.due(false, x.setWorth(2, 1, 0));
        Check.due(true, x.setWorth(2, 1000, 1000));
        Check.due(false, x.setWorth(2, 1000, 1000));
        Check.due(false, x.setWorth(1, 0, 0));
    }

    private static FeatureAnalyzer tenConstraintsThatAreOff() {
        FeatureAnalyzer x = Lines.flat(2, Lines.MAY);
        for (int k = 0; k < 10; k++) {
            x.addConstraint(Lines.EXCLUDE, 1, 2);
            x.turn(k, false);
        }
        return x;
    }

    private static void tenOff() {
        Refusals.due(Check.STATE, BuildingEdges::tenConstraintsThatAreOff, x -> x.addConstraint(0, 0, 0));
        Check.due(4, tenConstraintsThatAreOff().productCount());
    }

    private static void tenth() {
        FeatureAnalyzer x = Lines.flat(2, Lines.MAY);
        for (int k = 0; k < 9; k++) {
            x.addConstraint(Lines.REQUIRE, 0, 0);
        }
        Check.due(4, x.productCount());
        Check.due(9, x.addConstraint(Lines.EXCLUDE, 0, 2));
        Check.due(2, x.productCount());
        Check.due(1 << 9, x.blame(2));
    }

    private static void constraintNumbers() {
        FeatureAnalyzer x = new FeatureAnalyzer();
        for (int k = 0; k < 10; k++) {
            Check.due(k, x.addConstraint(Lines.REQUIRE, 0, 0));
        }
        x.dropConstraint();
        x.dropConstraint();
        Check.due(8, x.addConstraint(Lines.EXCLUDE, 0, 0));
        Check.due(9, x.addConstraint(Lines.REQUIRE, 0, 0));
        Check.due(1 << 8, x.blame(0));
    }

    private static void constraintEnds() {
        FeatureAnalyzer x = Lines.flat(11, Lines.MAY);
        Check.due(0, x.addConstraint(Lines.REQUIRE, 0, 11));
        Check.due(1024, x.productCount());
        Check.due(1, x.addConstraint(Lines.EXCLUDE, 11, 0));
        Check.due(0, x.productCount());
        Check.due(true, x.turn(0, false));
        Check.due(1024, x.productCount());
        Check.due(1, x.product(0));
        FeatureAnalyzer y = new FeatureAnalyzer();
        Check.due(0, y.addConstraint(Lines.REQUIRE, 0, 0));
        Check.due(1, y.productCount());
    }

    private static void turnDropped() {
        Refusals.due(Check.INDEX, BuildingEdges::allDropped, x -> x.turn(0, true));
        Refusals.due(Check.INDEX, BuildingEdges::allDropped, x -> x.turn(9, false));
    }

    private static FeatureAnalyzer allDropped() {
        FeatureAnalyzer x = Line.FULL.make();
        for (int k = 0; k < 10; k++) {
            x.dropConstraint();
        }
        return x;
    }

    private static void turnEnds() {
        FeatureAnalyzer x = Lines.flat(2, Lines.MAY);
        x.addConstraint(Lines.EXCLUDE, 0, 1);
        for (int k = 1; k < 9; k++) {
            x.addConstraint(Lines.REQUIRE, 0, 0);
        }
        x.addConstraint(Lines.EXCLUDE, 0, 2);
        Check.due(1, x.productCount());
        Check.due(true, x.turn(0, false));
        Check.due(2, x.productCount());
        Check.due(3, x.product(1));
        Check.due(true, x.turn(9, false));
        Check.due(4, x.productCount());
    }

    private static void turnTells() {
        FeatureAnalyzer x = Line.FULL.make();
        for (int k = 0; k < 10; k++) {
            boolean isOn = k != 3 && k != 7;
            Check.due(isOn, x.turn(k, isOn));
            Check.due(isOn, x.turn(k, !isOn));
            Check.due(!isOn, x.turn(k, !isOn));
            Check.due(!isOn, x.turn(k, isOn));
        }
    }

    private static void dropCounts() {
        FeatureAnalyzer x = Line.FULL.make();
        for (int left = 9; left >= 0; left--) {
            Check.due(left, x.dropConstraint());
        }
    }

    private static void dropLast() {
        FeatureAnalyzer x = Lines.flat(1, Lines.MAY);
        x.addConstraint(Lines.EXCLUDE, 0, 1);
        x.addConstraint(Lines.REQUIRE, 0, 1);
        Check.due(0, x.productCount());
        Check.due(1, x.dropConstraint());
        Check.due(1, x.productCount());
        Check.due(1, x.product(0));
        x.turn(0, false);
        Check.due(0, x.dropConstraint());
        Check.due(2, x.productCount());
        Check.due(0, x.addConstraint(Lines.EXCLUDE, 0, 1));
        Check.due(true, x.turn(0, true));
        Check.due(1, x.productCount());
    }

    private static void featureCount() {
        FeatureAnalyzer x = new FeatureAnalyzer();
        for (int n = 1; n <= 12; n++) {
            Check.due(n, x.featureCount());
            int none = n;
            Check.dueThrow(Check.INDEX, () -> x.addFeature(none, Lines.MAY));
            Check.dueThrow(Check.ARGUMENT, () -> x.addFeature(0, 4));
            Check.due(n, x.featureCount());
            if (n < 12) {
                x.addFeature(0, Lines.MAY);
            }
        }
        Check.dueThrow(Check.STATE, () -> x.addFeature(0, Lines.MAY));
        Check.due(12, x.featureCount());
    }
}

/** Promises 1 to 8: features and constraints. */
final class BuildingTests {
    private BuildingTests() {
    }

    static void addTo(Suite suite) {
        suite.test("1 a new object has the feature 0 alone", BuildingTests::newObject);
        suite.test("1 objects share nothing", BuildingTests::objectsAreApart);
        suite.test("2 addFeature numbers features in order", BuildingTests::addFeatureNumbers);
        suite.test("2 addFeature makes open features without worth", BuildingTests::addFeatureDefaults);
        suite.test("2 addFeature refuses", BuildingTests::addFeatureRefuses);
        suite.test("2 addFeature takes no thirteenth feature", BuildingTests::addFeatureLimit);
        suite.test("3 setRelation tells the relation before", BuildingTests::setRelationBefore);
        suite.test("3 setRelation changes the products", BuildingTests::setRelationActs);
        suite.test("3 setRelation refuses", BuildingTests::setRelationRefuses);
        suite.test("4 setWorth tells whether something changed", BuildingTests::setWorthTells);
        suite.test("4 setWorth refuses", BuildingTests::setWorthRefuses);
        suite.test("5 addConstraint numbers constraints in order", BuildingTests::addConstraintNumbers);
        suite.test("5 addConstraint acts at once", BuildingTests::addConstraintActs);
        suite.test("5 addConstraint refuses", BuildingTests::addConstraintRefuses);
        suite.test("6 turn tells the state before", BuildingTests::turnTells);
        suite.test("6 turn refuses", BuildingTests::turnRefuses);
        suite.test("7 dropConstraint removes the last one", BuildingTests::dropConstraintRemoves);
        suite.test("7 dropConstraint refuses", BuildingTests::dropConstraintRefuses);
        suite.test("8 featureCount counts", BuildingTests::featureCountCounts);
    }

    private static void newObject() {
        FeatureAnalyzer x = new FeatureAnalyzer();
        Check.due(1, x.featureCount());
        Check.due(1, x.productCount());
        Check.due(1, x.product(0));
        Check.due(1, x.candidateCount());
        Check.due(0, x.costOf(1));
        Check.due(0, x.valueOf(1));
        Check.due(-1, x.setBudget(-1));
        Check.due(0, x.reopen());
        Check.dueThrow(Check.STATE, x::dropConstraint);
    }

    private static void objectsAreApart() {
        FeatureAnalyzer x = Lines.phone();
        FeatureAnalyzer y = new FeatureAnalyzer();
        x.addConstraint(Lines.EXCLUDE, 0, 0);
        Check.due(0, x.productCount());
        Check.due(1, y.productCount());
        Check.due(7, x.featureCount());
        Check.due(1, y.featureCount());
    }

    private static void addFeatureNumbers() {
        FeatureAnalyzer x = new FeatureAnalyzer();
        Check.due(1, x.addFeature(0, Lines.MUST));
        Check.due(2, x.addFeature(1, Lines.MAY));
        Check.due(3, x.addFeature(2, Lines.ONE));
        Check.due(4, x.addFeature(2, Lines.SOME));
        Check.due(5, x.featureCount());
    }

    private static void addFeatureDefaults() {
        FeatureAnalyzer x = new FeatureAnalyzer();
        Check.due(1, x.productCount());
        x.addFeature(0, Lines.MAY);
        Check.due(2, x.productCount());
        Check.due(0, x.costOf(3));
        Check.due(0, x.valueOf(3));
        Check.due(Lines.OPEN, x.decide(1, Lines.OPEN));
        Check.due(Lines.MAY, x.setRelation(1, Lines.MAY));
    }

    private static void addFeatureRefuses() {
        FeatureAnalyzer x = Lines.flat(1, Lines.MAY);
        Check.dueThrow(Check.INDEX, x, () -> x.addFeature(-1, 0));
        Check.dueThrow(Check.INDEX, x, () -> x.addFeature(2, 0));
        Check.dueThrow(Check.INDEX, x, () -> x.addFeature(Integer.MIN_VALUE, 0));
        Check.dueThrow(Check.INDEX, x, () -> x.addFeature(Integer.MAX_VALUE, 9));
        Check.dueThrow(Check.ARGUMENT, x, () -> x.addFeature(1, -1));
        Check.dueThrow(Check.ARGUMENT, x, () -> x.addFeature(1, 4));
        Check.due(2, x.featureCount());
    }

    private static void addFeatureLimit() {
        FeatureAnalyzer x = Lines.chain(11, Lines.MAY);
        Check.due(11, x.addFeature(10, Lines.MAY));
        Check.due(12, x.featureCount());
        Check.dueThrow(Check.STATE, x, () -> x.addFeature(0, 0));
        Check.dueThrow(Check.STATE, x, () -> x.addFeature(11, 3));
        Check.dueThrow(Check.ARGUMENT, x, () -> x.addFeature(0, 4));
        Check.dueThrow(Check.INDEX, x, () -> x.addFeature(12, 4));
        Check.due(12, x.productCount());
    }

    private static void setRelationBefore() {
        FeatureAnalyzer x = Lines.flat(2, Lines.MAY);
        Check.due(Lines.MAY, x.setRelation(1, Lines.SOME));
        Check.due(Lines.SOME, x.setRelation(1, Lines.ONE));
        Check.due(Lines.ONE, x.setRelation(1, Lines.MUST));
        Check.due(Lines.MUST, x.setRelation(1, Lines.MUST));
        Check.due(Lines.MAY, x.setRelation(2, Lines.MAY));
    }

    private static void setRelationActs() {
        FeatureAnalyzer x = Lines.flat(3, Lines.MAY);
        Check.due(8, x.productCount());
        x.setRelation(1, Lines.ONE);
        Check.due(4, x.productCount());
        x.setRelation(2, Lines.ONE);
        Check.due(4, x.productCount());
        x.setRelation(3, Lines.ONE);
        Check.due(3, x.productCount());
        for (int f = 1; f <= 3; f++) {
            x.setRelation(f, Lines.SOME);
        }
        Check.due(7, x.productCount());
        x.setRelation(3, Lines.MUST);
        Check.due(3, x.productCount());
        x.setRelation(1, Lines.MUST);
        x.setRelation(2, Lines.MUST);
        Check.due(1, x.productCount());
        Check.due(15, x.product(0));
    }

    private static void setRelationRefuses() {
        FeatureAnalyzer x = Lines.flat(2, Lines.MAY);
        Check.dueThrow(Check.INDEX, x, () -> x.setRelation(0, 1));
        Check.dueThrow(Check.INDEX, x, () -> x.setRelation(0, 7));
        Check.dueThrow(Check.INDEX, x, () -> x.setRelation(-1, 1));
        Check.dueThrow(Check.INDEX, x, () -> x.setRelation(3, 7));
        Check.dueThrow(Check.ARGUMENT, x, () -> x.setRelation(1, 4));
        Check.dueThrow(Check.ARGUMENT, x, () -> x.setRelation(2, -1));
    }

    private static void setWorthTells() {
        FeatureAnalyzer x = Lines.flat(1, Lines.MAY);
        Check.due(false, x.setWorth(1, 0, 0));
        Check.due(true, x.setWorth(1, 5, 0));
        Check.due(true, x.setWorth(1, 5, 6));
        Check.due(false, x.setWorth(1, 5, 6));
        Check.due(true, x.setWorth(1, 4, 7));
        Check.due(true, x.setWorth(0, 1000, 1000));
        Check.due(1004, x.costOf(3));
        Check.due(1007, x.valueOf(3));
        Check.due(4, x.costOf(2));
        Check.due(true, x.setWorth(0, 0, 0));
        Check.due(4, x.costOf(3));
        Check.due(7, x.valueOf(3));
    }

    private static void setWorthRefuses() {
        FeatureAnalyzer x = Lines.flat(1, Lines.MAY);
        Check.dueThrow(Check.INDEX, x, () -> x.setWorth(2, 0, 0));
        Check.dueThrow(Check.INDEX, x, () -> x.setWorth(-1, -1, 0));
        Check.dueThrow(Check.ARGUMENT, x, () -> x.setWorth(1, -1, 5));
        Check.dueThrow(Check.ARGUMENT, x, () -> x.setWorth(1, 5, -1));
        Check.dueThrow(Check.ARGUMENT, x, () -> x.setWorth(1, 1001, 5));
        Check.dueThrow(Check.ARGUMENT, x, () -> x.setWorth(1, 5, 1001));
        Check.due(0, x.costOf(3));
        Check.due(0, x.valueOf(3));
    }

    private static void addConstraintNumbers() {
        FeatureAnalyzer x = Lines.flat(2, Lines.MAY);
        for (int k = 0; k < 10; k++) {
            Check.due(k, x.addConstraint(k % 2, 1, 2));
        }
        Check.dueThrow(Check.STATE, x, () -> x.addConstraint(0, 1, 2));
        Check.dueThrow(Check.INDEX, x, () -> x.addConstraint(0, 1, 3));
        Check.dueThrow(Check.ARGUMENT, x, () -> x.addConstraint(2, 1, 3));
    }

    private static void addConstraintActs() {
        FeatureAnalyzer x = Lines.flat(2, Lines.MAY);
        Check.due(4, x.productCount());
        x.addConstraint(Lines.REQUIRE, 1, 2);
        Check.due(3, x.productCount());
        Check.due(5, x.product(1));
        x.addConstraint(Lines.EXCLUDE, 1, 2);
        Check.due(2, x.productCount());
        Check.due(1, x.product(0));
        Check.due(5, x.product(1));
        Check.due(true, x.turn(1, true));
    }

    private static void addConstraintRefuses() {
        FeatureAnalyzer x = Lines.flat(2, Lines.MAY);
        Check.dueThrow(Check.ARGUMENT, x, () -> x.addConstraint(-1, 0, 0));
        Check.dueThrow(Check.ARGUMENT, x, () -> x.addConstraint(2, 9, 9));
        Check.dueThrow(Check.INDEX, x, () -> x.addConstraint(0, 3, 0));
        Check.dueThrow(Check.INDEX, x, () -> x.addConstraint(0, -1, 0));
        Check.dueThrow(Check.INDEX, x, () -> x.addConstraint(1, 0, 3));
        Check.dueThrow(Check.INDEX, x, () -> x.addConstraint(1, 0, -1));
        Check.due(0, x.addConstraint(0, 0, 2));
    }

    private static void turnTells() {
        FeatureAnalyzer x = Lines.flat(2, Lines.MAY);
        x.addConstraint(Lines.REQUIRE, 1, 2);
        x.addConstraint(Lines.EXCLUDE, 1, 2);
        Check.due(2, x.productCount());
        Check.due(true, x.turn(0, false));
        Check.due(3, x.productCount());
        Check.due(false, x.turn(0, false));
        Check.due(true, x.turn(1, false));
        Check.due(4, x.productCount());
        Check.due(false, x.turn(0, true));
        Check.due(true, x.turn(0, true));
        Check.due(3, x.productCount());
    }

    private static void turnRefuses() {
        FeatureAnalyzer x = Lines.flat(2, Lines.MAY);
        Check.dueThrow(Check.INDEX, x, () -> x.turn(0, false));
        x.addConstraint(Lines.REQUIRE, 1, 2);
        Check.dueThrow(Check.INDEX, x, () -> x.turn(1, false));
        Check.dueThrow(Check.INDEX, x, () -> x.turn(-1, true));
        x.dropConstraint();
        Check.dueThrow(Check.INDEX, x, () -> x.turn(0, true));
    }

    private static void dropConstraintRemoves() {
        FeatureAnalyzer x = Lines.flat(2, Lines.MAY);
        x.addConstraint(Lines.REQUIRE, 1, 2);
        x.addConstraint(Lines.EXCLUDE, 1, 2);
        x.turn(1, false);
        Check.due(3, x.productCount());
        Check.due(1, x.dropConstraint());
        Check.due(3, x.productCount());
        Check.due(0, x.dropConstraint());
        Check.due(4, x.productCount());
        Check.due(0, x.addConstraint(Lines.EXCLUDE, 0, 1));
        Check.due(1, x.addConstraint(Lines.EXCLUDE, 0, 2));
        Check.due(1, x.productCount());
        Check.due(true, x.turn(1, true));
    }

    private static void dropConstraintRefuses() {
        FeatureAnalyzer x = Lines.flat(1, Lines.MAY);
        Check.dueThrow(Check.STATE, x, x::dropConstraint);
        x.addConstraint(0, 0, 0);
        x.dropConstraint();
        Check.dueThrow(Check.STATE, x, x::dropConstraint);
    }

    private static void featureCountCounts() {
        FeatureAnalyzer x = new FeatureAnalyzer();
        for (int n = 1; n < 12; n++) {
            Check.due(n, x.featureCount());
            x.addFeature(0, n % 4);
        }
        Check.due(12, x.featureCount());
    }
}

/** Promises 9 to 11: decisions and the budget. */
final class DecisionTests {
    private DecisionTests() {
    }

    static void addTo(Suite suite) {
        suite.test("9 decide tells the decision before", DecisionTests::decideBefore);
        suite.test("9 decide narrows the candidates, not the products", DecisionTests::decideActs);
        suite.test("9 decide refuses", DecisionTests::decideRefuses);
        suite.test("10 reopen opens all features", DecisionTests::reopenOpens);
        suite.test("11 setBudget tells the budget before", DecisionTests::setBudgetBefore);
        suite.test("11 setBudget narrows the candidates, not the products", DecisionTests::setBudgetActs);
        suite.test("11 setBudget refuses", DecisionTests::setBudgetRefuses);
    }

    private static void decideBefore() {
        FeatureAnalyzer x = Lines.flat(2, Lines.MAY);
        Check.due(Lines.OPEN, x.decide(1, Lines.IN));
        Check.due(Lines.IN, x.decide(1, Lines.OUT));
        Check.due(Lines.OUT, x.decide(1, Lines.OUT));
        Check.due(Lines.OUT, x.decide(1, Lines.OPEN));
        Check.due(Lines.OPEN, x.decide(1, Lines.OPEN));
        Check.due(Lines.OPEN, x.decide(0, Lines.OUT));
        Check.due(Lines.OUT, x.decide(0, Lines.IN));
        Check.due(Lines.OPEN, x.decide(2, Lines.OPEN));
    }

    private static void decideActs() {
        FeatureAnalyzer x = Lines.flat(2, Lines.MAY);
        Check.due(4, x.candidateCount());
        x.decide(1, Lines.IN);
        Check.due(2, x.candidateCount());
        Check.due(3, x.candidate(0));
        Check.due(7, x.candidate(1));
        x.decide(2, Lines.OUT);
        Check.due(1, x.candidateCount());
        Check.due(3, x.candidate(0));
        x.decide(1, Lines.OPEN);
        Check.due(2, x.candidateCount());
        x.decide(0, Lines.OUT);
        Check.due(0, x.candidateCount());
        Check.due(4, x.productCount());
    }

    private static void decideRefuses() {
        FeatureAnalyzer x = Lines.flat(1, Lines.MAY);
        x.decide(1, Lines.IN);
        Check.dueThrow(Check.INDEX, x, () -> x.decide(2, 1));
        Check.dueThrow(Check.INDEX, x, () -> x.decide(-1, 3));
        Check.dueThrow(Check.ARGUMENT, x, () -> x.decide(1, 3));
        Check.dueThrow(Check.ARGUMENT, x, () -> x.decide(1, -1));
        Check.due(Lines.IN, x.decide(1, Lines.IN));
    }

    private static void reopenOpens() {
        FeatureAnalyzer x = Lines.flat(3, Lines.MAY);
        Check.due(0, x.reopen());
        x.decide(1, Lines.IN);
        x.decide(2, Lines.OUT);
        x.decide(3, Lines.IN);
        x.decide(3, Lines.OPEN);
        x.setBudget(7);
        Check.due(2, x.candidateCount());
        Check.due(2, x.reopen());
        Check.due(8, x.candidateCount());
        Check.due(0, x.reopen());
        Check.due(Lines.OPEN, x.decide(2, Lines.OPEN));
        Check.due(7, x.setBudget(-1));
    }

    private static void setBudgetBefore() {
        FeatureAnalyzer x = new FeatureAnalyzer();
        Check.due(-1, x.setBudget(0));
        Check.due(0, x.setBudget(20000));
        Check.due(20000, x.setBudget(-1));
        Check.due(-1, x.setBudget(-1));
    }

    private static void setBudgetActs() {
        FeatureAnalyzer x = Lines.flat(2, Lines.MAY);
        x.setWorth(1, 10, 0);
        x.setWorth(2, 20, 0);
        Check.due(4, x.candidateCount());
        x.setBudget(20);
        Check.due(3, x.candidateCount());
        x.setBudget(19);
        Check.due(2, x.candidateCount());
        Check.due(3, x.candidate(1));
        x.setWorth(1, 20, 0);
        Check.due(1, x.candidateCount());
        x.setBudget(0);
        Check.due(1, x.candidateCount());
        x.setWorth(0, 1, 0);
        Check.due(0, x.candidateCount());
        Check.due(4, x.productCount());
        x.setBudget(-1);
        Check.due(4, x.candidateCount());
    }

    private static void setBudgetRefuses() {
        FeatureAnalyzer x = new FeatureAnalyzer();
        x.setBudget(3);
        Check.dueThrow(Check.ARGUMENT, x, () -> x.setBudget(-2));
        Check.dueThrow(Check.ARGUMENT, x, () -> x.setBudget(20001));
        Check.dueThrow(Check.ARGUMENT, x, () -> x.setBudget(Integer.MIN_VALUE));
        Check.due(3, x.setBudget(3));
    }
}

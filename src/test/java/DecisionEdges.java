/** Promises 9 to 11: each sentence that names a boundary. */
final class DecisionEdges {
    private static final int[] DECISIONS = {Lines.OPEN, Lines.IN, Lines.OUT};

    private DecisionEdges() {
    }

    static void addTo(Suite suite) {
        Refusals.addNoFeature(suite, 9, "", (x, wrong) -> x.decide(wrong, Lines.IN));
        Refusals.addRange(suite, "9: Throws IllegalArgumentException if decision is not 0 to 2",
                Check.ARGUMENT, 0, line -> 2, (x, wrong) -> x.decide(0, wrong));
        Refusals.addOne(suite, "9: Throws what is named first: no such feature before decision",
                Check.INDEX, x -> x.decide(12, 3));
        suite.test("9: Returns the decision before (each of 0 to 2 after each)", DecisionEdges::decisionBefore);
        suite.test("9: feature: the least and the greatest one that is allowed", DecisionEdges::decideEnds);

        suite.test("10: Returns how many were not (none: 0)", DecisionEdges::noneDecided);
        suite.test("10: Returns how many were not (all: 12)", DecisionEdges::allDecided);
        suite.test("10: Returns how many were not (IN and OUT count, what was opened again does not)", DecisionEdges::someDecided);
        suite.test("10: Makes all features OPEN (and leaves the budget)", DecisionEdges::reopenLeavesBudget);

        Refusals.addRange(suite, "11: Throws IllegalArgumentException if budget is not -1 to 20000",
                Check.ARGUMENT, -1, line -> 20000, FeatureAnalyzer::setBudget);
        suite.test("11: budget: -1, 0 and 20000 are allowed", DecisionEdges::budgetEnds);
        suite.test("11: Returns the budget before; -1 if there was none", DecisionEdges::budgetBefore);
        suite.test("11: the budget 0 leaves what costs nothing", DecisionEdges::budgetNothing);
        suite.test("11: the budget may be just the greatest cost, 12000", DecisionEdges::budgetGreatestCost);
        suite.test("11: -1 for none: nothing is too dear", DecisionEdges::noBudget);
    }

    private static void decisionBefore() {
        for (int before : DECISIONS) {
            for (int after : DECISIONS) {
                FeatureAnalyzer x = Lines.flat(2, Lines.MAY);
                Check.due(Lines.OPEN, x.decide(1, before));
                Check.due(before, x.decide(1, after));
                Check.due(after, x.decide(1, after));
                Check.due(Lines.OPEN, x.decide(0, Lines.OPEN));
                Check.due(Lines.OPEN, x.decide(2, Lines.OPEN));
                int[] candidates = {4, 2, 2};
                Check.due(candidates[after], x.candidateCount());
            }
        }
    }

    private static void decideEnds() {
        FeatureAnalyzer x = Lines.flat(11, Lines.MAY);
        Check.due(Lines.OPEN, x.decide(11, Lines.IN));
        Check.due(1024, x.candidateCount());
        Check.due(2049, x.candidate(0));
        Check.due(Lines.IN, x.decide(11, Lines.OUT));
        Check.due(2047, x.candidate(1023));
        Check.due(Lines.OPEN, x.decide(0, Lines.IN));
        Check.due(1024, x.candidateCount());
        Check.due(Lines.IN, x.decide(0, Lines.OUT));
        Check.due(0, x.candidateCount());
    }

    private static void noneDecided() {
        Check.due(0, new FeatureAnalyzer().reopen());
        FeatureAnalyzer x = Lines.flat(11, Lines.MAY);
        Check.due(0, x.reopen());
        x.decide(3, Lines.IN);
        x.decide(3, Lines.OPEN);
        Check.due(0, x.reopen());
    }

    private static void allDecided() {
        FeatureAnalyzer x = Lines.flat(11, Lines.MAY);
        for (int f = 0; f < 12; f++) {
            x.decide(f, f % 2 == 0 ? Lines.IN : Lines.OUT);
        }
        Check.due(1, x.candidateCount());
        Check.due(12, x.reopen());
        Check.due(2048, x.candidateCount());
        for (int f = 0; f < 12; f++) {
            Check.due(Lines.OPEN, x.decide(f, Lines.OPEN));
        }
    }

    private static void someDecided() {
        FeatureAnalyzer x = Lines.flat(4, Lines.MAY);
        x.decide(0, Lines.IN);
        x.decide(4, Lines.OUT);
        x.decide(4, Lines.OUT);
        x.decide(2, Lines.IN);
        x.decide(2, Lines.OUT);
        x.decide(3, Lines.IN);
        x.decide(3, Lines.OPEN);
        Check.due(3, x.reopen());
        Check.due(0, x.reopen());
        Check.due(16, x.candidateCount());
    }

    private static void reopenLeavesBudget() {
        FeatureAnalyzer x = Line.BUSY.make();
        Check.due(2, x.reopen());
        Check.due(4, x.candidateCount());
        Check.due(25, x.setBudget(25));
    }

    private static void budgetEnds() {
        FeatureAnalyzer x = Line.BUSY.make();
        Check.due(25, x.setBudget(-1));
        Check.due(3, x.candidateCount());
        Check.due(-1, x.setBudget(0));
        Check.due(0, x.candidateCount());
        Check.due(0, x.setBudget(20000));
        Check.due(3, x.candidateCount());
        Check.due(20000, x.setBudget(19999));
        Check.due(19999, x.setBudget(-1));
    }

    private static void budgetBefore() {
        FeatureAnalyzer x = new FeatureAnalyzer();
        Check.due(-1, x.setBudget(-1));
        Check.due(-1, x.setBudget(7));
        Check.due(7, x.setBudget(7));
        Check.due(7, x.setBudget(-1));
        Check.due(-1, x.setBudget(0));
        Check.due(0, x.setBudget(-1));
    }

    private static void budgetNothing() {
        FeatureAnalyzer x = Lines.flat(2, Lines.MAY);
        x.setWorth(2, 1, 1000);
        x.setBudget(0);
        Check.due(2, x.candidateCount());
        Check.due(1, x.candidate(0));
        Check.due(3, x.candidate(1));
    }

    private static void budgetGreatestCost() {
        FeatureAnalyzer x = Lines.flat(11, Lines.MUST);
        for (int f = 0; f < 12; f++) {
            x.setWorth(f, 1000, 0);
        }
        x.setBudget(12000);
        Check.due(1, x.candidateCount());
        Check.due(4095, x.candidate(0));
        x.setBudget(11999);
        Check.due(0, x.candidateCount());
        x.setBudget(20000);
        Check.due(1, x.candidateCount());
    }

    private static void noBudget() {
        FeatureAnalyzer x = Lines.flat(11, Lines.MUST);
        for (int f = 0; f < 12; f++) {
            x.setWorth(f, 1000, 0);
        }
        Check.due(1, x.candidateCount());
        x.setBudget(0);
        Check.due(0, x.candidateCount());
        x.setBudget(-1);
        Check.due(1, x.candidateCount());
    }
}

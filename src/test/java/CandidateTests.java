/** Promises 23 to 33: candidates. */
final class CandidateTests {
    private CandidateTests() {
    }

    static void addTo(Suite suite) {
        suite.test("23 candidateCount counts", CandidateTests::candidateCountCounts);
        suite.test("24 candidate tells them in ascending order", CandidateTests::candidateInOrder);
        suite.test("24 candidate refuses", CandidateTests::candidateRefuses);
        suite.test("25 forced tells open features alone", CandidateTests::forcedTells);
        suite.test("26 ruledOut tells open features alone", CandidateTests::ruledOutTells);
        suite.test("25 26 without candidates they are empty", CandidateTests::nothingForced);
        suite.test("27 share divides", CandidateTests::shareDivides);
        suite.test("28 question halves best", CandidateTests::questionHalves);
        suite.test("28 question has no answer where nothing is open", CandidateTests::questionNone);
        suite.test("29 30 31 33 choose among the candidates alone", CandidateTests::choiceIsOfCandidates);
        suite.test("29 cheapest", CandidateTests::cheapestFound);
        suite.test("30 best", CandidateTests::bestFound);
        suite.test("31 frontSize counts what is unbeaten", CandidateTests::frontSizeCounts);
        suite.test("31 frontSize keeps what is the same", CandidateTests::frontKeepsSame);
        suite.test("31 frontSize at the greatest costs", CandidateTests::frontOfDear);
        suite.test("31 frontSize follows each change", CandidateTests::frontFollows);
        suite.test("32 front tells them in ascending order", CandidateTests::frontInOrder);
        suite.test("32 front refuses", CandidateTests::frontRefuses);
        suite.test("33 nearest", CandidateTests::nearestFound);
    }

    private static void candidateCountCounts() {
        FeatureAnalyzer x = Lines.phone();
        Check.due(8, x.candidateCount());
        x.decide(2, Lines.IN);
        Check.due(6, x.candidateCount());
        x.decide(5, Lines.OUT);
        Check.due(2, x.candidateCount());
        x.setWorth(4, 9, 0);
        x.setBudget(8);
        Check.due(1, x.candidateCount());
        x.addConstraint(Lines.EXCLUDE, 3, 6);
        Check.due(0, x.candidateCount());
        x.reopen();
        Check.due(2, x.candidateCount());
        Check.due(2048, Lines.flat(11, Lines.MAY).candidateCount());
    }

    private static void candidateInOrder() {
        FeatureAnalyzer x = Lines.phone();
        x.decide(3, Lines.OUT);
        Check.due(Lines.set(0, 1, 4), x.candidate(0));
        Check.due(Lines.set(0, 1, 2, 4, 5), x.candidate(1));
        Check.due(Lines.set(0, 1, 2, 4, 6), x.candidate(2));
        Check.due(Lines.set(0, 1, 2, 4, 5, 6), x.candidate(3));
    }

    private static void candidateRefuses() {
        FeatureAnalyzer x = Lines.phone();
        x.decide(3, Lines.OUT);
        Check.dueThrow(Check.INDEX, x, () -> x.candidate(4));
        Check.dueThrow(Check.INDEX, x, () -> x.candidate(-1));
        x.decide(4, Lines.OUT);
        Check.dueThrow(Check.INDEX, x, () -> x.candidate(0));
    }

    private static void forcedTells() {
        FeatureAnalyzer x = Lines.phone();
        Check.due(Lines.set(0, 1), x.forced());
        x.decide(5, Lines.IN);
        Check.due(Lines.set(0, 1, 2), x.forced());
        x.decide(0, Lines.IN);
        Check.due(Lines.set(1, 2), x.forced());
        x.decide(4, Lines.OUT);
        Check.due(Lines.set(1, 2, 3), x.forced());
    }

    private static void ruledOutTells() {
        FeatureAnalyzer x = Lines.phone();
        Check.due(0, x.ruledOut());
        x.decide(2, Lines.OUT);
        Check.due(Lines.set(5, 6), x.ruledOut());
        x.decide(6, Lines.OUT);
        Check.due(Lines.set(5), x.ruledOut());
        x.decide(3, Lines.IN);
        Check.due(Lines.set(4, 5), x.ruledOut());
        x.setWorth(3, 1, 0);
        x.decide(3, Lines.OPEN);
        x.setBudget(0);
        Check.due(Lines.set(3, 5), x.ruledOut());
    }

    private static void nothingForced() {
        FeatureAnalyzer x = Lines.phone();
        x.decide(1, Lines.OUT);
        Check.due(0, x.forced());
        Check.due(0, x.ruledOut());
    }

    private static void shareDivides() {
        FeatureAnalyzer x = Lines.phone();
        Check.dueDouble(1.0, x.share(0));
        Check.dueDouble(0.75, x.share(2));
        Check.dueDouble(0.5, x.share(4));
        x.decide(2, Lines.IN);
        Check.dueDouble(4.0 / 6.0, x.share(5));
        x.decide(5, Lines.OUT);
        Check.dueDouble(0.0, x.share(5));
        x.decide(6, Lines.OUT);
        Check.due(0, x.candidateCount());
        Check.dueDouble(0.0, x.share(0));
        FeatureAnalyzer y = Lines.flat(3, Lines.SOME);
        Check.dueDouble(4.0 / 7.0, y.share(3));
    }

    private static void questionHalves() {
        FeatureAnalyzer x = Lines.phone();
        Check.due(3, x.question());
        x.decide(3, Lines.IN);
        Check.due(5, x.question());
        x.decide(5, Lines.OUT);
        Check.due(2, x.question());
        FeatureAnalyzer y = Lines.flat(2, Lines.MAY);
        y.addConstraint(Lines.REQUIRE, 1, 2);
        Check.due(1, y.question());
        y.addFeature(0, Lines.MAY);
        Check.due(3, y.question());
    }

    private static void questionNone() {
        FeatureAnalyzer x = new FeatureAnalyzer();
        Check.due(-1, x.question());
        x.decide(0, Lines.OUT);
        Check.due(-1, x.question());
        FeatureAnalyzer y = Lines.flat(4, Lines.MUST);
        Check.due(-1, y.question());
        y.setRelation(2, Lines.MAY);
        Check.due(2, y.question());
        y.decide(2, Lines.IN);
        Check.due(-1, y.question());
    }

    private static void choiceIsOfCandidates() {
        FeatureAnalyzer x = Lines.flat(3, Lines.MAY);
        x.setWorth(1, 1, 2);
        x.setWorth(2, 2, 1);
        x.setWorth(3, 3, 3);
        Check.due(1, x.cheapest());
        Check.due(15, x.best());
        Check.due(1, x.nearest(0));
        x.decide(3, Lines.IN);
        Check.due(9, x.cheapest());
        Check.due(15, x.best());
        Check.due(9, x.nearest(0));
        Check.due(13, x.nearest(Lines.set(2)));
        x.decide(1, Lines.OUT);
        Check.due(13, x.best());
        Check.due(9, x.nearest(Lines.set(1)));
        Check.due(2, x.frontSize());
        Check.due(9, x.front(0));
        FeatureAnalyzer y = Lines.flat(3, Lines.ONE);
        y.decide(1, Lines.OUT);
        y.setWorth(1, 1, 5);
        y.setWorth(2, 9, 4);
        y.setWorth(3, 2, 4);
        Check.due(9, y.cheapest());
        Check.due(9, y.best());
        y.setWorth(2, 2, 3);
        Check.due(5, y.cheapest());
        Check.due(9, y.best());
    }

    private static void cheapestFound() {
        FeatureAnalyzer x = Lines.flat(3, Lines.ONE);
        Check.due(3, x.cheapest());
        x.setWorth(1, 7, 0);
        Check.due(5, x.cheapest());
        x.setWorth(2, 7, 0);
        x.setWorth(3, 7, 9);
        Check.due(3, x.cheapest());
        x.setWorth(3, 6, 0);
        Check.due(9, x.cheapest());
        x.decide(3, Lines.OUT);
        Check.due(3, x.cheapest());
        x.setBudget(6);
        Check.due(-1, x.cheapest());
    }

    private static void bestFound() {
        FeatureAnalyzer x = Lines.flat(3, Lines.ONE);
        Check.due(3, x.best());
        x.setWorth(2, 5, 4);
        Check.due(5, x.best());
        x.setWorth(3, 4, 4);
        Check.due(9, x.best());
        x.setWorth(1, 4, 4);
        Check.due(3, x.best());
        x.setWorth(3, 900, 5);
        Check.due(9, x.best());
        x.setBudget(4);
        Check.due(3, x.best());
        x.setBudget(3);
        Check.due(-1, x.best());
    }

    private static void frontSizeCounts() {
        FeatureAnalyzer x = Lines.flat(4, Lines.ONE);
        x.setWorth(1, 10, 10);
        x.setWorth(2, 10, 11);
        x.setWorth(3, 11, 11);
        x.setWorth(4, 12, 12);
        Check.due(2, x.frontSize());
        Check.due(5, x.front(0));
        Check.due(17, x.front(1));
        x.setWorth(2, 11, 11);
        Check.due(4, x.frontSize());
        x.setWorth(4, 10, 11);
        Check.due(1, x.frontSize());
        Check.due(17, x.front(0));
        x.decide(0, Lines.OUT);
        Check.due(0, x.frontSize());
    }

    private static void frontKeepsSame() {
        FeatureAnalyzer x = Lines.flat(11, Lines.MAY);
        Check.due(2048, x.frontSize());
        x.setWorth(11, 0, 1);
        Check.due(1024, x.frontSize());
        x.setWorth(11, 1, 0);
        Check.due(1024, x.frontSize());
        x.setWorth(11, 1, 1);
        Check.due(2048, x.frontSize());
    }

    private static void frontOfDear() {
        FeatureAnalyzer x = Lines.flat(11, Lines.MUST);
        for (int f = 0; f < 12; f++) {
            x.setWorth(f, 1000, 1000);
        }
        Check.due(1, x.frontSize());
        Check.due(4095, x.front(0));
        x.setRelation(11, Lines.MAY);
        Check.due(2, x.frontSize());
        x.setWorth(11, 1000, 0);
        Check.due(1, x.frontSize());
        Check.due(2047, x.front(0));
    }

    private static void frontFollows() {
        FeatureAnalyzer x = Lines.flat(3, Lines.MAY);
        x.setWorth(1, 1, 5);
        x.setWorth(2, 1, 3);
        x.setWorth(3, 1, 2);
        Check.due(4, x.frontSize());
        x.decide(1, Lines.OUT);
        Check.due(3, x.frontSize());
        x.setBudget(1);
        Check.due(2, x.frontSize());
        x.reopen();
        Check.due(2, x.frontSize());
        Check.due(3, x.front(1));
        x.addConstraint(Lines.EXCLUDE, 0, 1);
        Check.due(5, x.front(1));
        x.turn(0, false);
        Check.due(3, x.front(1));
        x.setRelation(3, Lines.MUST);
        Check.due(1, x.frontSize());
        Check.due(9, x.front(0));
        x.addFeature(0, Lines.MAY);
        Check.due(2, x.frontSize());
    }

    private static void frontInOrder() {
        FeatureAnalyzer x = Lines.flat(3, Lines.ONE);
        x.setWorth(1, 9, 9);
        x.setWorth(2, 5, 5);
        x.setWorth(3, 1, 1);
        Check.due(3, x.front(0));
        Check.due(5, x.front(1));
        Check.due(9, x.front(2));
    }

    private static void frontRefuses() {
        FeatureAnalyzer x = Lines.flat(3, Lines.ONE);
        x.setWorth(1, 1, 0);
        Check.due(2, x.frontSize());
        Check.dueThrow(Check.INDEX, x, () -> x.front(2));
        Check.dueThrow(Check.INDEX, x, () -> x.front(-1));
        x.decide(0, Lines.OUT);
        Check.dueThrow(Check.INDEX, x, () -> x.front(0));
    }

    private static void nearestFound() {
        FeatureAnalyzer x = Lines.phone();
        Check.due(Lines.set(0, 1, 3), x.nearest(0));
        Check.due(Lines.set(0, 1, 4), x.nearest(Lines.set(4)));
        Check.due(Lines.set(0, 1, 2, 3, 5, 6), x.nearest(127));
        Check.due(Lines.set(0, 1, 2, 3, 5), x.nearest(Lines.set(2, 5)));
        Check.due(Lines.set(0, 1, 4), x.nearest(Lines.set(0, 1, 2, 4)));
        Check.due(Lines.set(0, 1, 2, 4, 6), x.nearest(Lines.set(0, 2, 4, 6)));
        x.decide(3, Lines.OUT);
        Check.due(Lines.set(0, 1, 4), x.nearest(0));
        x.decide(4, Lines.OUT);
        Check.due(-1, x.nearest(0));
    }
}

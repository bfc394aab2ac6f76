/** Promises 34 to 37: pairs, the sample and the digest. */
final class PairTests {
    private PairTests() {
    }

    static void addTo(Suite suite) {
        suite.test("34 pairCount counts what candidates show", PairTests::pairCountCounts);
        suite.test("34 pairCount follows each change", PairTests::pairCountFollows);
        suite.test("34 pairCount is of the candidates alone", PairTests::pairCountOfCandidates);
        suite.test("35 sampleSize", PairTests::sampleSizeCounts);
        suite.test("36 sample takes the most telling one first", PairTests::sampleInOrder);
        suite.test("36 sample shows all pairs that are possible", PairTests::sampleShowsAll);
        suite.test("36 sample refuses", PairTests::sampleRefuses);
        suite.test("36 sample follows each change", PairTests::sampleFollows);
        suite.test("37 digest of a new object", PairTests::digestNew);
        suite.test("37 digest takes all numbers in order", PairTests::digestWhole);
        suite.test("37 digest tells the candidates, not the products", PairTests::digestCandidates);
        suite.test("37 digest changes with each part", PairTests::digestParts);
    }

    private static void pairCountCounts() {
        Check.due(0, new FeatureAnalyzer().pairCount());
        Check.due(1, Lines.flat(1, Lines.MUST).pairCount());
        Check.due(2, Lines.flat(1, Lines.MAY).pairCount());
        Check.due(8, Lines.flat(2, Lines.MAY).pairCount());
        Check.due(66, Lines.flat(11, Lines.MUST).pairCount());
        Check.due(55 * 4 + 11 * 2, Lines.flat(11, Lines.MAY).pairCount());
        Check.due(7, Lines.flat(2, Lines.SOME).pairCount());
        Check.due(6, Lines.flat(2, Lines.ONE).pairCount());
    }

    private static void pairCountFollows() {
        FeatureAnalyzer x = Lines.flat(2, Lines.MAY);
        x.decide(1, Lines.IN);
        Check.due(5, x.pairCount());
        Check.due(3, x.sample(0));
        x.decide(2, Lines.OUT);
        Check.due(3, x.pairCount());
        x.decide(2, Lines.IN);
        Check.due(3, x.pairCount());
        x.setRelation(1, Lines.MUST);
        x.decide(1, Lines.OPEN);
        Check.due(3, x.pairCount());
        x.setRelation(1, Lines.MAY);
        x.addConstraint(Lines.EXCLUDE, 1, 2);
        x.decide(2, Lines.OPEN);
        x.decide(1, Lines.OUT);
        Check.due(5, x.pairCount());
        x.decide(2, Lines.IN);
        Check.due(3, x.pairCount());
        Check.due(5, x.sample(0));
        x.dropConstraint();
        x.decide(0, Lines.OUT);
        Check.due(0, x.pairCount());
        x.reopen();
        Check.due(8, x.pairCount());
        x.addConstraint(Lines.REQUIRE, 1, 2);
        Check.due(7, x.pairCount());
    }

    private static void pairCountOfCandidates() {
        FeatureAnalyzer x = Lines.flat(2, Lines.ONE);
        x.addFeature(2, Lines.MAY);
        Check.due(14, x.pairCount());
        x.decide(1, Lines.OUT);
        Check.due(9, x.pairCount());
        x.decide(3, Lines.OUT);
        Check.due(6, x.pairCount());
        x.reopen();
        x.decide(3, Lines.OUT);
        Check.due(11, x.pairCount());
    }

    private static void sampleSizeCounts() {
        Check.due(0, new FeatureAnalyzer().sampleSize());
        Check.due(1, Lines.flat(1, Lines.MUST).sampleSize());
        Check.due(2, Lines.flat(1, Lines.MAY).sampleSize());
        Check.due(4, Lines.flat(2, Lines.MAY).sampleSize());
        Check.due(1, Lines.flat(11, Lines.MUST).sampleSize());
        Check.due(11, Lines.flat(11, Lines.ONE).sampleSize());
    }

    private static void sampleInOrder() {
        FeatureAnalyzer x = Lines.flat(2, Lines.MAY);
        Check.due(1, x.sample(0));
        Check.due(7, x.sample(1));
        Check.due(3, x.sample(2));
        Check.due(5, x.sample(3));
    }

    private static void sampleShowsAll() {
        FeatureAnalyzer x = Lines.flat(11, Lines.MAY);
        boolean[] shown = new boolean[12 * 12 * 4];
        int count = 0;
        for (int i = 0; i < x.sampleSize(); i++) {
            int sample = x.sample(i);
            for (int a = 0; a < 12; a++) {
                for (int b = a + 1; b < 12; b++) {
                    int kind = (sample >> a & 1) * 2 + (sample >> b & 1);
                    int pair = (a * 12 + b) * 4 + kind;
                    count += shown[pair] ? 0 : 1;
                    shown[pair] = true;
                }
            }
        }
        Check.due(x.pairCount(), count);
    }

    private static void sampleRefuses() {
        FeatureAnalyzer x = Lines.flat(2, Lines.MAY);
        Check.dueThrow(Check.INDEX, x, () -> x.sample(4));
        Check.dueThrow(Check.INDEX, x, () -> x.sample(-1));
        FeatureAnalyzer y = new FeatureAnalyzer();
        Check.dueThrow(Check.INDEX, y, () -> y.sample(0));
    }

    private static void sampleFollows() {
        FeatureAnalyzer x = Lines.flat(2, Lines.MAY);
        Check.due(4, x.sampleSize());
        x.decide(1, Lines.IN);
        Check.due(2, x.sampleSize());
        Check.due(3, x.sample(0));
        Check.due(7, x.sample(1));
        x.setWorth(2, 1, 0);
        x.setBudget(0);
        Check.due(1, x.sampleSize());
        x.setWorth(2, 0, 0);
        Check.due(2, x.sampleSize());
        x.reopen();
        x.addConstraint(Lines.EXCLUDE, 1, 2);
        Check.due(3, x.sampleSize());
        x.addFeature(0, Lines.MUST);
        Check.due(9, x.sample(0));
    }

    private static long foldAll(long... numbers) {
        long d = 139;
        for (long number : numbers) {
            d = d * 31 + number;
        }
        return d;
    }

    private static void digestNew() {
        Check.due(foldAll(1, 0, 0, 0, 0, -1, 1, 1, 1), new FeatureAnalyzer().digest());
    }

    private static void digestWhole() {
        FeatureAnalyzer x = Lines.flat(1, Lines.MAY);
        x.addFeature(1, Lines.SOME);
        x.addFeature(1, Lines.SOME);
        x.setWorth(0, 1, 2);
        x.setWorth(2, 30, 40);
        x.decide(0, Lines.IN);
        x.decide(3, Lines.OUT);
        x.addConstraint(Lines.EXCLUDE, 0, 2);
        x.addConstraint(Lines.REQUIRE, 3, 1);
        x.turn(0, false);
        x.setBudget(500);
        Check.due(foldAll(4, 0, 1, 1, 3, 1, 3,
                1, 2, 1, 0, 0, 0, 30, 40, 0, 0, 0, 2,
                2, 1, 0, 2, 0, 0, 3, 1, 1,
                500, 4, 2, 1, 7), x.digest());
    }

    private static void digestCandidates() {
        FeatureAnalyzer x = Lines.flat(1, Lines.MAY);
        x.decide(1, Lines.IN);
        Check.due(foldAll(2, 0, 1, 0, 0, 0, 0, 0, 1, 0, -1, 2, 1, 3), x.digest());
        x.decide(0, Lines.OUT);
        Check.due(foldAll(2, 0, 1, 0, 0, 2, 0, 0, 1, 0, -1, 2, 0), x.digest());
    }

    private static void digestParts() {
        FeatureAnalyzer x = Lines.flat(2, Lines.MAY);
        long first = x.digest();
        x.setWorth(1, 1, 0);
        Check.due(false, first == x.digest());
        x.setWorth(1, 0, 0);
        Check.due(first, x.digest());
        x.setBudget(20000);
        Check.due(false, first == x.digest());
        x.setBudget(-1);
        x.addConstraint(Lines.REQUIRE, 1, 1);
        Check.due(false, first == x.digest());
        x.dropConstraint();
        Check.due(first, x.digest());
        x.decide(1, Lines.IN);
        Check.due(false, first == x.digest());
        x.reopen();
        x.sampleSize();
        x.frontSize();
        Check.due(first, x.digest());
    }
}

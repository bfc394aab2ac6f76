import java.math.BigInteger;
import java.util.ArrayList;
import java.util.Collections;
import java.util.List;
import java.util.function.Supplier;

/** Promises 34 to 37: each sentence that names a boundary; without candidates: CandidateEdges. */
final class PairEdges {
    private PairEdges() {
    }

    static void addTo(Suite suite) {
        suite.test("34: Returns the number of possible pairs (the feature 0 alone: 0)", PairEdges::noPairs);
        suite.test("34: Returns the number of possible pairs (as many as can be: 242)", PairEdges::mostPairs);
        suite.test("34: possible if a candidate shows it (no candidate shows both)", PairEdges::neverBoth);
        suite.test("34: possible if a candidate shows it (none shows the smaller one alone)", PairEdges::neverSmallerAlone);
        suite.test("34: possible if a candidate shows it (none shows the other one alone)", PairEdges::neverOtherAlone);
        suite.test("34: possible if a candidate shows it (none shows none of them)", PairEdges::neverNone);
        suite.test("34: possible if a candidate shows it (not a product that is none)", PairEdges::pairsOfCandidates);
        suite.test("35: Returns the number of candidates in the sample (the feature 0 alone: 0)", PairEdges::noSample);
        suite.test("35: Returns the number of candidates in the sample (one candidate: 1)", PairEdges::sampleOfOne);
        suite.test("35: as long as there is a possible pair that none of them shows (all are needed)", PairEdges::sampleOfAll);
        suite.test("35: as long as there is a possible pair that none of them shows (not longer)", PairEdges::sampleEnds);
        Refusals.addRange(suite, "36: Throws IndexOutOfBoundsException if there is no such index",
                Check.INDEX, 0, line -> line.make().sampleSize() - 1, FeatureAnalyzer::sample);
        suite.test("36: Throws IndexOutOfBoundsException if there is no such index (of the feature 0 alone, 0)", () ->
                Refusals.due(Check.INDEX, Line.ALONE::make, x -> x.sample(0)));
        suite.test("36: an index in the sample, from 0 (the least and the greatest one)", PairEdges::sampleIndexes);
        suite.test("36: of several the one with the smallest number (the first one)", PairEdges::sampleFirst);
        suite.test("36: of several the one with the smallest number (a later one)", PairEdges::sampleTie);
        suite.test("36: that shows the most pairs that none of them shows (not the smallest number)", PairEdges::sampleMost);
        digestTests(suite);
    }

    private static void digestTests(Suite suite) {
        suite.test("37: the feature 0 alone (no parent, no constraint)", PairEdges::digestAlone);
        suite.test("37: which wraps around as a 64-bit integer (to less than 0 and above it)", PairEdges::digestWraps);
        suite.test("37: which wraps around as a 64-bit integer (12 features, 10 constraints)", PairEdges::digestFull);
        suite.test("37: which wraps around as a 64-bit integer (2048 candidates)", PairEdges::digestOfMany);
        suite.test("37: the budget (-1 for none; 0; 20000)", PairEdges::digestBudget);
        suite.test("37: the number of products; the number of candidates, and these (no products)", PairEdges::digestWithoutProducts);
        suite.test("37: the number of products; the number of candidates, and these (no candidates)", PairEdges::digestWithoutCandidates);
        suite.test("37: 1 if it is on, else 0", PairEdges::digestOnOff);
        suite.test("37: x (relation, cost, value and decision at 0 and at the greatest)", PairEdges::digestGreatest);
    }

    private static void noPairs() {
        Check.due(0, new FeatureAnalyzer().pairCount());
        Check.due(1, Lines.flat(1, Lines.MUST).pairCount());
        Check.due(2, Lines.flat(1, Lines.MAY).pairCount());
    }

    private static void mostPairs() {
        Check.due(242, Lines.flat(11, Lines.MAY).pairCount());
        FeatureAnalyzer x = Lines.flat(11, Lines.MAY);
        x.decide(11, Lines.IN);
        Check.due(221, x.pairCount());
    }

    private static void neverBoth() {
        FeatureAnalyzer x = Lines.flat(2, Lines.MAY);
        Check.due(8, x.pairCount());
        x.addConstraint(Lines.EXCLUDE, 1, 2);
        Check.due(7, x.pairCount());
    }

    private static void neverSmallerAlone() {
        FeatureAnalyzer x = Lines.flat(2, Lines.MAY);
        x.addConstraint(Lines.REQUIRE, 1, 2);
        Check.due(7, x.pairCount());
    }

    private static void neverOtherAlone() {
        FeatureAnalyzer x = Lines.flat(2, Lines.MAY);
        x.addConstraint(Lines.REQUIRE, 2, 1);
        Check.due(7, x.pairCount());
    }

    private static void neverNone() {
        Check.due(7, Lines.flat(2, Lines.SOME).pairCount());
    }

    private static void pairsOfCandidates() {
        FeatureAnalyzer x = Lines.flat(2, Lines.MAY);
        x.decide(2, Lines.OUT);
        Check.due(5, x.pairCount());
        x.setWorth(1, 1, 0);
        x.setBudget(0);
        Check.due(3, x.pairCount());
        Check.due(4, x.productCount());
    }

    private static void noSample() {
        FeatureAnalyzer x = new FeatureAnalyzer();
        Check.due(1, x.candidateCount());
        Check.due(0, x.sampleSize());
        x.addFeature(0, Lines.MUST);
        Check.due(1, x.sampleSize());
    }

    private static void sampleOfOne() {
        FeatureAnalyzer x = Lines.flat(11, Lines.MUST);
        Check.due(1, x.sampleSize());
        Check.due(4095, x.sample(0));
    }

    private static void sampleOfAll() {
        Check.due(11, Lines.flat(11, Lines.ONE).sampleSize());
        Check.due(4, Lines.flat(2, Lines.MAY).sampleSize());
        Check.due(12, Lines.chain(12, Lines.MAY).sampleSize());
    }

    private static void sampleEnds() {
        FeatureAnalyzer x = Lines.flat(3, Lines.MAY);
        Check.due(8, x.candidateCount());
        Check.due(5, x.sampleSize());
        FeatureAnalyzer y = Lines.flat(11, Lines.MAY);
        int size = y.sampleSize();
        long before = pairsShown(y, size - 1);
        Check.due(242, pairsShown(y, size));
        Check.due(true, before < 242);
    }

    private static long pairsShown(FeatureAnalyzer x, int size) {
        boolean[] shown = new boolean[12 * 12 * 4];
        long count = 0;
        for (int i = 0; i < size; i++) {
            int sample = x.sample(i);
            for (int pair = 0; pair < shown.length; pair++) {
                int a = pair / 48;
                int b = pair / 4 % 12;
                int kind = (sample >> a & 1) * 2 + (sample >> b & 1);
                if (a < b && kind == pair % 4 && !shown[pair]) {
                    shown[pair] = true;
                    count++;
                }
            }
        }
        return count;
    }

    private static void sampleIndexes() {
        FeatureAnalyzer x = Lines.flat(11, Lines.ONE);
        for (int i = 0; i < 11; i++) {
            Check.due(1 + (2 << i), x.sample(i));
        }
        Check.dueThrow(Check.INDEX, x, () -> x.sample(11));
    }

    private static void sampleFirst() {
        Check.due(1, Lines.flat(11, Lines.MAY).sample(0));
        Check.due(3, Lines.flat(11, Lines.SOME).sample(0));
        FeatureAnalyzer x = Line.BUSY.make();
        Check.due(x.candidate(0), x.sample(0));
    }

    private static void sampleTie() {
        FeatureAnalyzer x = Lines.flat(2, Lines.MAY);
        x.sampleSize();
        Check.due(3, x.sample(2));
        Check.due(5, x.sample(3));
        FeatureAnalyzer y = Lines.flat(3, Lines.ONE);
        Check.due(3, y.sample(0));
        Check.due(5, y.sample(1));
        Check.due(9, y.sample(2));
    }

    private static void sampleMost() {
        Check.due(4095, Lines.flat(11, Lines.MAY).sample(1));
        FeatureAnalyzer x = Lines.flat(2, Lines.MAY);
        Check.due(7, x.sample(1));
        FeatureAnalyzer y = Lines.chain(4, Lines.MAY);
        Check.due(1, y.sample(0));
        Check.due(15, y.sample(1));
    }

    /** What the numbers come to, reckoned without bound and cut to 64 bits at the end. */
    private static long fold(List<Integer> numbers) {
        BigInteger d = BigInteger.valueOf(139);
        for (int number : numbers) {
            d = d.multiply(BigInteger.valueOf(31)).add(BigInteger.valueOf(number));
        }
        return d.longValue();
    }

    private static void dueDigest(Supplier<FeatureAnalyzer> line, int... numbers) {
        List<Integer> all = new ArrayList<>();
        for (int number : numbers) {
            all.add(number);
        }
        FeatureAnalyzer x = line.get();
        all.add(x.productCount());
        all.add(x.candidateCount());
        for (int i = 0; i < x.candidateCount(); i++) {
            if (i % 100 == 99) {
                x = line.get();
            }
            all.add(x.candidate(i));
        }
        Check.due(fold(all), line.get().digest());
        Check.due(fold(all), x.digest());
    }

    private static void digestAlone() {
        Check.due(fold(List.of(1, 0, 0, 0, 0, -1, 1, 1, 1)), new FeatureAnalyzer().digest());
    }

    private static void digestWraps() {
        boolean isBelow = false;
        boolean isAbove = false;
        for (int cost = 0; cost < 50; cost++) {
            FeatureAnalyzer x = Lines.flat(11, Lines.MUST);
            x.setWorth(0, cost, 0);
            List<Integer> numbers = new ArrayList<>(Collections.nCopies(1 + 22 + 36, 0));
            numbers.set(0, 12);
            numbers.set(23, cost);
            numbers.addAll(List.of(0, -1, 1, 1, 4095));
            long d = x.digest();
            Check.due(fold(numbers), d);
            isBelow |= d < 0;
            isAbove |= d > 0;
        }
        Check.due(true, isBelow && isAbove);
    }

    private static void digestFull() {
        dueDigest(Line.FULL::make, 12,
                0, 0, 0, 1, 0, 2, 0, 2, 2, 3, 2, 3, 4, 1, 7, 0, 1, 1, 9, 1, 10, 1,
                1000, 1000, 0, 3, 4, 1, 10, 5, 0, 0, 0, 0, 0, 0, 0, 0, 0, 0,
                6, 8, 0, 0, 0, 0, 0, 0, 2, 0, 7, 0, 4, 0, 0, 900, 1, 0,
                10, 0, 11, 2, 1, 1, 3, 6, 1, 0, 5, 5, 1, 1, 8, 11, 0, 0, 9, 1, 1,
                1, 3, 7, 1, 0, 0, 1, 1, 1, 10, 7, 0, 1, 2, 7, 1, 0, 2, 0, 1,
                1030);
    }

    private static void digestOfMany() {
        int[] numbers = new int[1 + 22 + 36 + 2];
        numbers[0] = 12;
        for (int f = 1; f < 12; f++) {
            numbers[2 * f] = Lines.MAY;
        }
        numbers[numbers.length - 1] = -1;
        dueDigest(() -> Lines.flat(11, Lines.MAY), numbers);
    }

    private static void digestBudget() {
        for (int budget : new int[] {-1, 0, 1, 19999, 20000}) {
            FeatureAnalyzer x = new FeatureAnalyzer();
            x.setBudget(budget);
            Check.due(fold(List.of(1, 0, 0, 0, 0, budget, 1, 1, 1)), x.digest());
        }
    }

    private static void digestWithoutProducts() {
        FeatureAnalyzer x = Lines.flat(1, Lines.MAY);
        x.addConstraint(Lines.EXCLUDE, 0, 0);
        Check.due(fold(List.of(2, 0, 1, 0, 0, 0, 0, 0, 0, 1, 1, 0, 0, 1, -1, 0, 0)), x.digest());
    }

    private static void digestWithoutCandidates() {
        FeatureAnalyzer x = Lines.flat(1, Lines.MAY);
        x.setWorth(0, 1, 0);
        x.setBudget(0);
        Check.due(fold(List.of(2, 0, 1, 1, 0, 0, 0, 0, 0, 0, 0, 2, 0)), x.digest());
    }

    private static void digestOnOff() {
        FeatureAnalyzer x = new FeatureAnalyzer();
        x.addConstraint(Lines.REQUIRE, 0, 0);
        Check.due(fold(List.of(1, 0, 0, 0, 1, 0, 0, 0, 1, -1, 1, 1, 1)), x.digest());
        x.turn(0, false);
        Check.due(fold(List.of(1, 0, 0, 0, 1, 0, 0, 0, 0, -1, 1, 1, 1)), x.digest());
        x.turn(0, true);
        Check.due(fold(List.of(1, 0, 0, 0, 1, 0, 0, 0, 1, -1, 1, 1, 1)), x.digest());
    }

    private static void digestGreatest() {
        FeatureAnalyzer x = Lines.flat(1, Lines.SOME);
        x.setWorth(0, 1000, 1000);
        x.decide(0, Lines.OUT);
        x.setWorth(1, 1000, 0);
        x.decide(1, Lines.IN);
        Check.due(fold(List.of(2, 0, 3, 1000, 1000, 2, 1000, 0, 1, 0, -1, 1, 0)), x.digest());
        x.reopen();
        x.setWorth(0, 0, 1000);
        x.setRelation(1, Lines.MUST);
        Check.due(fold(List.of(2, 0, 0, 0, 1000, 0, 1000, 0, 0, 0, -1, 1, 1, 3)), x.digest());
    }
}

import java.util.function.ToLongFunction;

/** "An object is used for at most 512 calls after it has been made": the last one counts too. */
final class CallLimitTests {
    private static final int CALLS = 512;
    private static final String SENTENCE = "all: used for at most 512 calls, the last of them ";

    private CallLimitTests() {
    }

    static void addTo(Suite suite) {
        changes(suite);
        questionsOnProducts(suite);
        questionsOnCandidates(suite);
        refused(suite);
        suite.test(SENTENCE + "tells the digest of all that was done (features)", CallLimitTests::growsLate);
        suite.test(SENTENCE + "adds the tenth constraint", CallLimitTests::tenthConstraintLast);
        suite.test("7: 512 calls that add and drop constraints", CallLimitTests::addsAndDrops);
        suite.test("9: 512 calls that decide", CallLimitTests::decides);
        suite.test("4: 512 calls that set worths", CallLimitTests::setsWorths);
        suite.test("3: 512 calls that set relations", CallLimitTests::setsRelations);
        suite.test("32: 512 calls on the front of the largest line", CallLimitTests::asksFront);
        suite.test("36: 512 calls on the sample of the largest line", CallLimitTests::asksSample);
        suite.test("37: 512 digests", CallLimitTests::asksDigest);
    }

    private static void changes(Suite suite) {
        last(suite, "2 addFeature", x -> x.addFeature(0, Lines.SOME));
        last(suite, "3 setRelation", x -> x.setRelation(1, 2));
        last(suite, "4 setWorth (another one)", x -> bit(x.setWorth(1, 4, 4)));
        last(suite, "4 setWorth (the same one)", x -> bit(x.setWorth(1, 3, 4)));
        last(suite, "5 addConstraint", x -> x.addConstraint(0, 0, 0));
        last(suite, "6 turn (it was on)", x -> bit(x.turn(0, false)));
        last(suite, "6 turn (it was off)", x -> bit(x.turn(1, true)));
        last(suite, "7 dropConstraint", FeatureAnalyzer::dropConstraint);
        last(suite, "9 decide", x -> x.decide(1, 0));
        last(suite, "10 reopen", FeatureAnalyzer::reopen);
        last(suite, "11 setBudget", x -> x.setBudget(-1));
    }

    private static void questionsOnProducts(Suite suite) {
        last(suite, "8 featureCount", FeatureAnalyzer::featureCount);
        last(suite, "12 violations", x -> x.violations(120));
        last(suite, "13 costOf", x -> x.costOf(127));
        last(suite, "14 valueOf", x -> x.valueOf(127));
        last(suite, "15 productCount", FeatureAnalyzer::productCount);
        last(suite, "16 product", x -> x.product(3));
        last(suite, "17 isDead", x -> bit(x.isDead(6)));
        last(suite, "18 isCore", x -> bit(x.isCore(1)));
        last(suite, "19 isFalselyFree", x -> bit(x.isFalselyFree(2)));
        last(suite, "20 areTogether", x -> bit(x.areTogether(0, 1)));
        last(suite, "21 bundles", FeatureAnalyzer::bundles);
        last(suite, "22 blame", x -> x.blame(3));
    }

    private static void questionsOnCandidates(Suite suite) {
        last(suite, "23 candidateCount", FeatureAnalyzer::candidateCount);
        last(suite, "24 candidate", x -> x.candidate(1));
        last(suite, "25 forced", FeatureAnalyzer::forced);
        last(suite, "26 ruledOut", FeatureAnalyzer::ruledOut);
        last(suite, "27 share", x -> Double.doubleToLongBits(x.share(2)));
        last(suite, "28 question", FeatureAnalyzer::question);
        last(suite, "29 cheapest", FeatureAnalyzer::cheapest);
        last(suite, "30 best", FeatureAnalyzer::best);
        last(suite, "31 frontSize", FeatureAnalyzer::frontSize);
        last(suite, "32 front", x -> x.front(1));
        last(suite, "33 nearest", x -> x.nearest(127));
        last(suite, "34 pairCount", FeatureAnalyzer::pairCount);
        last(suite, "35 sampleSize", FeatureAnalyzer::sampleSize);
        last(suite, "36 sample", x -> x.sample(1));
        last(suite, "37 digest", FeatureAnalyzer::digest);
    }

    private static void refused(Suite suite) {
        lastRefused(suite, "2 addFeature", Check.INDEX, x -> x.addFeature(-1, 0));
        lastRefused(suite, "5 addConstraint", Check.ARGUMENT, x -> x.addConstraint(2, 0, 0));
        lastRefused(suite, "11 setBudget", Check.ARGUMENT, x -> x.setBudget(20001));
        lastRefused(suite, "16 product", Check.INDEX, x -> x.product(-1));
        lastRefused(suite, "33 nearest", Check.ARGUMENT, x -> x.nearest(-1));
    }

    /** The last call answers what the first one on a line just made answers. */
    private static void last(Suite suite, String name, ToLongFunction<FeatureAnalyzer> call) {
        suite.test(SENTENCE + "answers as the first ones do: " + name, () ->
                Check.due(call.applyAsLong(Line.BUSY.make()), call.applyAsLong(used(Line.BUSY))));
    }

    private static void lastRefused(Suite suite, String name, Class<? extends RuntimeException> want,
            ToLongFunction<FeatureAnalyzer> call) {
        suite.test(SENTENCE + "is refused as the first ones are: " + name, () -> {
            FeatureAnalyzer x = used(Line.BUSY);
            Check.dueThrow(want, () -> call.applyAsLong(x));
        });
    }

    private static long bit(boolean answer) {
        return answer ? 1 : 0;
    }

    /** A line that has but one call left. */
    private static FeatureAnalyzer used(Line line) {
        FeatureAnalyzer x = line.make();
        int left = CALLS - 1 - line.calls();
        for (int i = 0; i < left / 2; i++) {
            callTwice(x, line, i % 10);
        }
        if (left % 2 == 1) {
            x.featureCount();
        }
        return x;
    }

    /** Two calls that leave the state as it was. */
    private static void callTwice(FeatureAnalyzer x, Line line, int kind) {
        switch (kind) {
            case 0 -> {
                x.turn(0, false);
                x.turn(0, true);
            }
            case 1 -> {
                x.decide(6, Lines.IN);
                x.decide(6, Lines.OPEN);
            }
            case 2 -> {
                x.setBudget(0);
                x.setBudget(line.budget());
            }
            case 3 -> {
                x.setWorth(1, 1000, 1000);
                x.setWorth(1, 3, 4);
            }
            case 4 -> {
                x.setRelation(2, Lines.MUST);
                x.setRelation(2, Lines.MAY);
            }
            case 5 -> {
                x.dropConstraint();
                x.addConstraint(Lines.REQUIRE, 2, 0);
            }
            case 6 -> {
                x.digest();
                x.frontSize();
            }
            case 7 -> {
                x.sample(0);
                x.candidate(0);
            }
            case 8 -> {
                Check.dueThrow(Check.INDEX, () -> x.addFeature(-1, 0));
                Check.dueThrow(Check.INDEX, () -> x.product(-1));
            }
            default -> {
                x.blame(3);
                x.bundles();
            }
        }
    }

    private static void growsLate() {
        FeatureAnalyzer x = new FeatureAnalyzer();
        for (int call = 0; call < CALLS - 12; call++) {
            Check.due(1, x.productCount());
        }
        for (int f = 1; f < 12; f++) {
            Check.due(f, x.addFeature(0, Lines.MAY));
        }
        Check.due(Lines.flat(11, Lines.MAY).digest(), x.digest());
    }

    private static void tenthConstraintLast() {
        FeatureAnalyzer x = Lines.flat(1, Lines.MAY);
        for (int k = 0; k < 9; k++) {
            x.addConstraint(Lines.REQUIRE, 0, 0);
        }
        for (int call = 10; call < CALLS - 1; call++) {
            Check.due(2, x.productCount());
        }
        Check.due(9, x.addConstraint(Lines.EXCLUDE, 0, 1));
    }

    private static void addsAndDrops() {
        FeatureAnalyzer x = Lines.flat(1, Lines.MAY);
        for (int call = 1; call < CALLS - 2; call += 2) {
            Check.due(0, x.addConstraint(Lines.EXCLUDE, 0, 1));
            Check.due(0, x.dropConstraint());
        }
        Check.due(2, x.productCount());
    }

    private static void decides() {
        FeatureAnalyzer x = Lines.flat(1, Lines.MAY);
        int before = Lines.OPEN;
        for (int call = 1; call < CALLS - 1; call++) {
            Check.due(before, x.decide(1, call % 3));
            before = call % 3;
        }
        Check.due(before == Lines.OPEN ? 0 : 1, x.reopen());
    }

    private static void setsWorths() {
        FeatureAnalyzer x = new FeatureAnalyzer();
        for (int call = 0; call < CALLS - 1; call++) {
            Check.due(true, x.setWorth(0, 1000 - call, call));
        }
        Check.due(1000 - (CALLS - 2), x.costOf(1));
    }

    private static void setsRelations() {
        FeatureAnalyzer x = Lines.flat(2, Lines.MAY);
        int before = Lines.MAY;
        for (int call = 2; call < CALLS - 1; call++) {
            Check.due(before, x.setRelation(2, call % 4));
            before = call % 4;
        }
        Check.due(before == Lines.MAY ? 4 : 2, x.productCount());
    }

    private static void asksFront() {
        FeatureAnalyzer x = Lines.flat(11, Lines.MAY);
        for (int call = 11; call < CALLS; call++) {
            Check.due(2L * call + 1, x.front(call));
        }
    }

    private static void asksSample() {
        FeatureAnalyzer x = Lines.flat(11, Lines.MAY);
        for (int call = 11; call < CALLS; call++) {
            Check.due(call % 2 == 0 ? 1 : 4095, x.sample(call % 2));
        }
    }

    private static void asksDigest() {
        FeatureAnalyzer x = new FeatureAnalyzer();
        long first = x.digest();
        for (int call = 1; call < CALLS; call++) {
            Check.due(first, x.digest());
        }
    }
}

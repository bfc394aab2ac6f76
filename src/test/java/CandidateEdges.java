import java.util.function.Consumer;
import java.util.function.Supplier;

/** Promises 23 to 33: each sentence that names a boundary. */
final class CandidateEdges {
    private CandidateEdges() {
    }

    static void addTo(Suite suite) {
        addNone(suite, "for there are no products", ProductEdges::withoutProducts);
        addNone(suite, "for there are no products any more", ProductEdges::productsGone);
        addNone(suite, "for a decision", CandidateEdges::withoutRoot);
        addNone(suite, "for a decision after questions", CandidateEdges::candidatesGone);
        addNone(suite, "for decisions that a constraint keeps apart", CandidateEdges::withBothOfTwo);
        addNone(suite, "for the budget", CandidateEdges::withTooLittle);
        Refusals.addRange(suite, "24: Throws IndexOutOfBoundsException if there is no such candidate",
                Check.INDEX, 0, line -> line.make().candidateCount() - 1, FeatureAnalyzer::candidate);
        Refusals.addNoFeature(suite, 27, "", FeatureAnalyzer::share);
        Refusals.addRange(suite, "32: Throws IndexOutOfBoundsException if there is no such one",
                Check.INDEX, 0, line -> line.make().frontSize() - 1, FeatureAnalyzer::front);
        Refusals.addNoConfiguration(suite, 33, FeatureAnalyzer::nearest);
        suite.test("23: Returns the number of candidates (1, and as many as can be: 2048)", CandidateEdges::mostCandidates);
        suite.test("24: index: the least and the greatest one that is allowed", CandidateEdges::candidateEnds);
        suite.test("25: the OPEN features (none is OPEN)", CandidateEdges::noneOpen);
        suite.test("25: all candidates have (the whole set, 4095)", CandidateEdges::allForced);
        suite.test("25: all candidates have (just one has it not)", CandidateEdges::forcedButForOne);
        suite.test("26: no candidate has (none, all but the feature 0)", CandidateEdges::allRuledOut);
        suite.test("26: no candidate has (just one has it)", CandidateEdges::ruledOutButForOne);
        suite.test("27: divided by the number of candidates (none has it: 0, all: 1, one of many)", CandidateEdges::shareEnds);
        questionTests(suite);
        choiceTests(suite);
        frontTests(suite);
        nearestTests(suite);
    }

    /** What each promise says of no candidates. */
    private static void addNone(Suite suite, String why, Supplier<FeatureAnalyzer> line) {
        addNone(suite, "23: Returns the number of candidates (none: 0", why, line, x -> Check.due(0, x.candidateCount()));
        suite.test("24: Throws IndexOutOfBoundsException if there is no such candidate (there are none, " + why + ")", () ->
                Refusals.due(Check.INDEX, line, x -> x.candidate(0)));
        addNone(suite, "25: 0 if there are no candidates (", why, line, x -> Check.due(0, x.forced()));
        addNone(suite, "26: 0 if there are no candidates (", why, line, x -> Check.due(0, x.ruledOut()));
        addNone(suite, "27: 0 if there are none (", why, line, x -> {
            for (int f = 0; f < x.featureCount(); f++) {
                Check.dueDouble(0.0, x.share(f));
            }
        });
        addNone(suite, "28: -1 if there is none (no candidate, ", why, line, x -> Check.due(-1, x.question()));
        addNone(suite, "29: -1 if there are none (", why, line, x -> Check.due(-1, x.cheapest()));
        addNone(suite, "30: -1 if there are none (", why, line, x -> Check.due(-1, x.best()));
        addNone(suite, "31: Returns their number (none: 0, ", why, line, x -> Check.due(0, x.frontSize()));
        suite.test("32: Throws IndexOutOfBoundsException if there is no such one (there are none, " + why + ")", () ->
                Refusals.due(Check.INDEX, line, x -> x.front(0)));
        addNone(suite, "33: -1 if there are none (", why, line, x -> {
            Check.due(-1, x.nearest(0));
            Check.due(-1, x.nearest((1 << x.featureCount()) - 1));
        });
        suite.test("33: Throws IllegalArgumentException (there are no candidates, " + why + ")", () -> {
            int past = 1 << line.get().featureCount();
            Refusals.due(Check.ARGUMENT, line, x -> x.nearest(past));
            Refusals.due(Check.ARGUMENT, line, x -> x.nearest(-1));
        });
        addNone(suite, "34: Returns the number of possible pairs (none: 0, ", why, line, x -> Check.due(0, x.pairCount()));
        addNone(suite, "35: Returns the number of candidates in the sample (none: 0, ", why, line, x -> Check.due(0, x.sampleSize()));
        suite.test("36: Throws IndexOutOfBoundsException if there is no such index (there are none, " + why + ")", () ->
                Refusals.due(Check.INDEX, line, x -> x.sample(0)));
    }

    private static void addNone(Suite suite, String sentence, String why, Supplier<FeatureAnalyzer> line,
            Consumer<FeatureAnalyzer> check) {
        suite.test(sentence + " " + why + ")", () -> {
            check.accept(line.get());
            FeatureAnalyzer asked = line.get();
            asked.digest();
            asked.frontSize();
            asked.sampleSize();
            check.accept(asked);
        });
    }

    private static void questionTests(Suite suite) {
        suite.test("28: -1 if there is none (one candidate)", CandidateEdges::questionOfOne);
        suite.test("28: but both are not 0 (what all have, what none has)", CandidateEdges::questionNeedsBoth);
        suite.test("28: but both are not 0 (one of many has it)", CandidateEdges::questionOfRare);
        suite.test("28: of several the one with the smallest number (with and without may differ either way)", CandidateEdges::questionTie);
        suite.test("28: differ least (the last feature)", CandidateEdges::questionLast);
    }

    private static void choiceTests(Suite suite) {
        suite.test("29: of several the one with the smallest number", CandidateEdges::cheapestTie);
        suite.test("29: the least cost (0, and 12000 alone)", CandidateEdges::cheapestEnds);
        suite.test("30: of several the one with the least cost", CandidateEdges::bestCost);
        suite.test("30: then the one with the smallest number", CandidateEdges::bestTie);
        suite.test("30: the greatest value (0 alone, and 12000)", CandidateEdges::bestEnds);
    }

    private static void frontTests(Suite suite) {
        suite.test("31: its cost is not greater, and its value not less (the same value, the same cost)", CandidateEdges::beatenByOne);
        suite.test("31: they do not have both the same cost and the same value", CandidateEdges::sameIsUnbeaten);
        suite.test("31: no other one beats (dearer and better, cheaper and worse)", CandidateEdges::trade);
        suite.test("31: the candidates alone (what is none beats nothing)", CandidateEdges::frontOfCandidates);
        suite.test("31: Returns their number (as many as can be: 2048)", CandidateEdges::greatestFront);
        suite.test("31: the costs 0 and 12000", CandidateEdges::frontAtEnds);
        suite.test("32: index: the least and the greatest one that is allowed, in ascending order", CandidateEdges::frontEnds);
    }

    private static void nearestTests(Suite suite) {
        suite.test("33: the fewest features that are in just one of both (none, and all)", CandidateEdges::nearestEnds);
        suite.test("33: of several the one with the smallest number", CandidateEdges::nearestTie);
        suite.test("33: which candidate (a product that is none is not told)", CandidateEdges::nearestIsCandidate);
        suite.test("33: configuration: 0 and 2^n - 1 are allowed, 2^n is not (n from 1 to 12)", CandidateEdges::nearestBounds);
    }

    private static FeatureAnalyzer withoutRoot() {
        FeatureAnalyzer x = Line.BUSY.make();
        x.decide(0, Lines.OUT);
        return x;
    }

    /** It had candidates, and was asked for them. */
    private static FeatureAnalyzer candidatesGone() {
        FeatureAnalyzer x = Line.BUSY.make();
        x.digest();
        x.frontSize();
        x.sampleSize();
        x.decide(1, Lines.OUT);
        return x;
    }

    private static FeatureAnalyzer withBothOfTwo() {
        FeatureAnalyzer x = Lines.flat(3, Lines.MAY);
        x.addConstraint(Lines.EXCLUDE, 1, 3);
        x.decide(1, Lines.IN);
        x.decide(3, Lines.IN);
        return x;
    }

    private static FeatureAnalyzer withTooLittle() {
        FeatureAnalyzer x = Line.FULL.make();
        x.setBudget(1002);
        return x;
    }

    private static void mostCandidates() {
        FeatureAnalyzer x = Lines.flat(11, Lines.MAY);
        Check.due(2048, x.candidateCount());
        for (int f = 0; f < 12; f++) {
            x.decide(f, Lines.IN);
        }
        Check.due(1, x.candidateCount());
        Check.due(4095, x.candidate(0));
        for (int f = 1; f < 12; f++) {
            x.decide(f, Lines.OUT);
        }
        Check.due(1, x.candidateCount());
        Check.due(1, x.candidate(0));
    }

    private static void candidateEnds() {
        FeatureAnalyzer x = Lines.flat(11, Lines.MAY);
        Check.due(1, x.candidate(0));
        Check.due(4095, x.candidate(2047));
        x.decide(1, Lines.IN);
        Check.due(3, x.candidate(0));
        Check.due(4095, x.candidate(1023));
        Check.dueThrow(Check.INDEX, x, () -> x.candidate(1024));
        FeatureAnalyzer y = Line.BUSY.make();
        Check.due(19, y.candidate(0));
        Check.due(87, y.candidate(1));
    }

    private static void noneOpen() {
        FeatureAnalyzer x = Lines.flat(3, Lines.MUST);
        Check.due(15, x.forced());
        for (int f = 0; f < 4; f++) {
            x.decide(f, Lines.IN);
        }
        Check.due(1, x.candidateCount());
        Check.due(0, x.forced());
        Check.due(0, x.ruledOut());
    }

    private static void allForced() {
        FeatureAnalyzer x = Lines.flat(11, Lines.MUST);
        Check.due(4095, x.forced());
        x.decide(11, Lines.IN);
        Check.due(2047, x.forced());
        FeatureAnalyzer y = Lines.flat(11, Lines.MAY);
        Check.due(1, y.forced());
        y.decide(0, Lines.IN);
        Check.due(0, y.forced());
    }

    private static void forcedButForOne() {
        FeatureAnalyzer x = Lines.flat(2, Lines.SOME);
        x.addConstraint(Lines.REQUIRE, 1, 2);
        Check.due(2, x.candidateCount());
        Check.due(Lines.set(0, 2), x.forced());
        x.addConstraint(Lines.REQUIRE, 2, 1);
        Check.due(Lines.set(0, 1, 2), x.forced());
    }

    private static void allRuledOut() {
        FeatureAnalyzer x = Lines.flat(11, Lines.MAY);
        Check.due(0, x.ruledOut());
        for (int f = 1; f < 12; f++) {
            x.setWorth(f, 1, 0);
        }
        x.setBudget(0);
        Check.due(1, x.candidateCount());
        Check.due(4094, x.ruledOut());
        x.decide(11, Lines.OUT);
        Check.due(2046, x.ruledOut());
    }

    private static void ruledOutButForOne() {
        FeatureAnalyzer x = Lines.flat(11, Lines.ONE);
        Check.due(0, x.ruledOut());
        x.setWorth(5, 1, 0);
        x.setBudget(0);
        Check.due(Lines.set(5), x.ruledOut());
        x.setBudget(1);
        Check.due(0, x.ruledOut());
    }

    private static void shareEnds() {
        FeatureAnalyzer x = Lines.flat(11, Lines.ONE);
        Check.dueDouble(1.0, x.share(0));
        Check.dueDouble(1.0 / 11.0, x.share(1));
        Check.dueDouble(1.0 / 11.0, x.share(11));
        x.decide(11, Lines.OUT);
        Check.dueDouble(0.0, x.share(11));
        Check.dueDouble(1.0 / 10.0, x.share(1));
        FeatureAnalyzer y = Lines.flat(11, Lines.SOME);
        Check.dueDouble(1024.0 / 2047.0, y.share(11));
        Check.dueDouble(1.0, Lines.flat(11, Lines.MUST).share(11));
    }

    private static void questionOfOne() {
        Check.due(-1, new FeatureAnalyzer().question());
        Check.due(-1, Lines.flat(11, Lines.MUST).question());
        FeatureAnalyzer x = Lines.flat(1, Lines.MAY);
        Check.due(1, x.question());
        x.decide(1, Lines.OUT);
        Check.due(-1, x.question());
    }

    private static void questionNeedsBoth() {
        FeatureAnalyzer x = Lines.flat(4, Lines.MAY);
        x.setRelation(1, Lines.MUST);
        x.decide(2, Lines.OUT);
        Check.due(3, x.question());
        x.decide(3, Lines.IN);
        Check.due(4, x.question());
        x.decide(4, Lines.IN);
        Check.due(-1, x.question());
    }

    private static void questionOfRare() {
        FeatureAnalyzer x = Lines.flat(11, Lines.ONE);
        Check.due(1, x.question());
        FeatureAnalyzer y = Lines.flat(3, Lines.ONE);
        y.addFeature(0, Lines.MUST);
        Check.due(1, y.question());
        y.decide(1, Lines.OUT);
        Check.due(2, y.question());
    }

    private static void questionTie() {
        FeatureAnalyzer x = Lines.flat(2, Lines.MAY);
        x.addConstraint(Lines.REQUIRE, 1, 2);
        Check.due(3, x.candidateCount());
        Check.dueDouble(1.0 / 3.0, x.share(1));
        Check.dueDouble(2.0 / 3.0, x.share(2));
        Check.due(1, x.question());
        FeatureAnalyzer y = Lines.flat(2, Lines.MAY);
        y.addConstraint(Lines.REQUIRE, 2, 1);
        Check.due(1, y.question());
        Check.due(1, Lines.flat(11, Lines.MAY).question());
    }

    private static void questionLast() {
        FeatureAnalyzer x = Lines.flat(10, Lines.ONE);
        Check.due(1, x.question());
        x.addFeature(0, Lines.MAY);
        Check.due(11, x.question());
    }

    private static void cheapestTie() {
        FeatureAnalyzer x = Lines.flat(4, Lines.ONE);
        x.setWorth(1, 8, 9);
        x.setWorth(2, 7, 0);
        x.setWorth(3, 7, 9);
        x.setWorth(4, 7, 0);
        Check.due(5, x.cheapest());
        x.decide(2, Lines.OUT);
        Check.due(9, x.cheapest());
        Check.due(1, Lines.flat(11, Lines.MAY).cheapest());
    }

    private static void cheapestEnds() {
        FeatureAnalyzer x = Lines.flat(11, Lines.MUST);
        Check.due(4095, x.cheapest());
        for (int f = 0; f < 12; f++) {
            x.setWorth(f, 1000, 0);
        }
        Check.due(4095, x.cheapest());
        x.setRelation(5, Lines.MAY);
        Check.due(4095 - 32, x.cheapest());
        x.setWorth(5, 0, 0);
        Check.due(4095 - 32, x.cheapest());
    }

    private static void bestCost() {
        FeatureAnalyzer x = Lines.flat(4, Lines.ONE);
        x.setWorth(1, 8, 9);
        x.setWorth(2, 1, 8);
        x.setWorth(3, 7, 9);
        x.setWorth(4, 8, 9);
        Check.due(9, x.best());
        x.setWorth(4, 6, 9);
        Check.due(17, x.best());
    }

    private static void bestTie() {
        FeatureAnalyzer x = Lines.flat(4, Lines.ONE);
        x.setWorth(1, 8, 9);
        x.setWorth(2, 7, 9);
        x.setWorth(3, 7, 9);
        x.setWorth(4, 7, 9);
        Check.due(5, x.best());
        x.decide(2, Lines.OUT);
        Check.due(9, x.best());
        Check.due(1, Lines.flat(11, Lines.MAY).best());
    }

    private static void bestEnds() {
        FeatureAnalyzer x = Lines.flat(11, Lines.MAY);
        for (int f = 0; f < 12; f++) {
            x.setWorth(f, 1000, 1000);
        }
        Check.due(4095, x.best());
        FeatureAnalyzer y = Lines.flat(11, Lines.MUST);
        Check.due(4095, y.best());
        y.setWorth(3, 1000, 0);
        Check.due(4095, y.best());
    }

    private static void beatenByOne() {
        FeatureAnalyzer x = Lines.flat(2, Lines.ONE);
        x.setWorth(1, 5, 5);
        x.setWorth(2, 5, 6);
        Check.due(1, x.frontSize());
        Check.due(5, x.front(0));
        x.setWorth(2, 6, 5);
        Check.due(1, x.frontSize());
        Check.due(3, x.front(0));
        x.setWorth(2, 4, 6);
        Check.due(1, x.frontSize());
        Check.due(5, x.front(0));
    }

    private static void sameIsUnbeaten() {
        FeatureAnalyzer x = Lines.flat(3, Lines.ONE);
        Check.due(3, x.frontSize());
        x.setWorth(1, 5, 5);
        x.setWorth(2, 6, 6);
        x.setWorth(3, 5, 5);
        Check.due(3, x.frontSize());
        x.setWorth(2, 4, 5);
        Check.due(1, x.frontSize());
        Check.due(5, x.front(0));
    }

    private static void trade() {
        FeatureAnalyzer x = Lines.flat(2, Lines.ONE);
        x.setWorth(1, 5, 5);
        x.setWorth(2, 6, 6);
        Check.due(2, x.frontSize());
        x.setWorth(2, 4, 4);
        Check.due(2, x.frontSize());
        x.setWorth(1, 0, 0);
        Check.due(2, x.frontSize());
    }

    private static void frontOfCandidates() {
        FeatureAnalyzer x = Lines.flat(2, Lines.ONE);
        x.setWorth(1, 5, 5);
        x.setWorth(2, 4, 6);
        x.decide(2, Lines.OUT);
        Check.due(1, x.frontSize());
        Check.due(3, x.front(0));
        FeatureAnalyzer y = Lines.flat(2, Lines.ONE);
        y.setWorth(1, 5, 5);
        y.setWorth(2, 6, 6);
        y.setBudget(5);
        Check.due(1, y.frontSize());
        Check.due(3, y.front(0));
    }

    private static void greatestFront() {
        FeatureAnalyzer x = Lines.flat(11, Lines.MAY);
        Check.due(2048, x.frontSize());
        Check.due(4095, x.front(2047));
        for (int f = 1; f < 12; f++) {
            x.setWorth(f, 1 << Math.min(f, 9), 1 << Math.min(f, 9));
        }
        Check.due(2048, x.frontSize());
        Check.due(1, x.front(0));
        Check.due(4095, x.front(2047));
    }

    private static void frontAtEnds() {
        FeatureAnalyzer x = Lines.flat(11, Lines.MUST);
        for (int f = 0; f < 12; f++) {
            x.setWorth(f, 1000, 0);
        }
        Check.due(1, x.frontSize());
        Check.due(4095, x.front(0));
        x.setRelation(11, Lines.MAY);
        Check.due(1, x.frontSize());
        Check.due(2047, x.front(0));
        x.setWorth(11, 1000, 1);
        Check.due(2, x.frontSize());
        Check.due(4095, x.front(1));
        FeatureAnalyzer y = Lines.flat(1, Lines.MAY);
        y.setWorth(1, 0, 1000);
        Check.due(1, y.frontSize());
        Check.due(3, y.front(0));
    }

    private static void frontEnds() {
        FeatureAnalyzer x = Lines.flat(11, Lines.ONE);
        for (int f = 1; f < 12; f++) {
            x.setWorth(f, 12 - f, 12 - f);
        }
        Check.due(11, x.frontSize());
        for (int i = 0; i < 11; i++) {
            Check.due(1 + (2 << i), x.front(i));
        }
        Check.dueThrow(Check.INDEX, x, () -> x.front(11));
        x.setWorth(1, 0, 999);
        Check.due(1, x.frontSize());
        Check.dueThrow(Check.INDEX, x, () -> x.front(1));
    }

    private static void nearestEnds() {
        FeatureAnalyzer x = Lines.flat(11, Lines.MUST);
        Check.due(4095, x.nearest(0));
        Check.due(4095, x.nearest(4095));
        FeatureAnalyzer y = Lines.flat(11, Lines.MAY);
        Check.due(1, y.nearest(0));
        Check.due(4095, y.nearest(4095));
        Check.due(2049, y.nearest(2048));
        Check.due(1365, y.nearest(1365));
    }

    private static void nearestTie() {
        FeatureAnalyzer x = Lines.flat(11, Lines.ONE);
        Check.due(3, x.nearest(0));
        Check.due(3, x.nearest(4095));
        Check.due(9, x.nearest(Lines.set(0, 3, 7)));
        x.decide(1, Lines.OUT);
        Check.due(5, x.nearest(0));
        FeatureAnalyzer y = Lines.flat(2, Lines.ONE);
        y.addFeature(1, Lines.MUST);
        Check.due(5, y.nearest(1));
        Check.due(11, y.nearest(Lines.set(0, 3)));
    }

    private static void nearestIsCandidate() {
        FeatureAnalyzer x = Lines.flat(2, Lines.MAY);
        x.decide(1, Lines.IN);
        Check.due(3, x.nearest(1));
        Check.due(7, x.nearest(5));
        x.setWorth(2, 1, 0);
        x.setBudget(0);
        Check.due(3, x.nearest(5));
        Check.due(3, x.nearest(7));
    }

    private static void nearestBounds() {
        for (int n = 1; n <= 12; n++) {
            FeatureAnalyzer x = Lines.flat(n - 1, Lines.MAY);
            int past = 1 << n;
            Check.due(1, x.nearest(0));
            Check.due(past - 1, x.nearest(past - 1));
            Check.dueThrow(Check.ARGUMENT, () -> x.nearest(past));
            if (n < 12) {
                x.addFeature(0, Lines.MAY);
                Check.due(past + 1, x.nearest(past));
            }
        }
    }
}

import java.util.function.DoubleSupplier;

/**
 * Runs of as many calls as are promised, each answer compared with that of the oracle; the same
 * runs each time.
 */
final class RandomTests {
    private static final int CALLS = 512;

    private RandomTests() {
    }

    static void addTo(Suite suite) {
        for (int seed = 1; seed <= 60; seed++) {
            int start = seed;
            // Small lines meet many changes, large ones meet all limits.
            int size = seed % 10 == 0 ? 12 : 3 + seed % 6;
            suite.test("all: random run " + seed, () -> new Run(start, size).play());
        }
    }

    /** One object and its oracle. */
    private static final class Run {
        private final FeatureAnalyzer x = new FeatureAnalyzer();
        private final Oracle oracle = new Oracle();
        private final int size;
        private long state;

        Run(int seed, int size) {
            this.size = size;
            this.state = seed * 7919L + 17;
        }

        private int pick(int bound) {
            state = state * 6364136223846793005L + 1442695040888963407L;
            return (int) ((state >>> 33) % bound);
        }

        /** Mostly a number from 0 to bound - 1, sometimes one outside. */
        private int around(int bound) {
            int chance = pick(30);
            if (chance == 0) {
                return -1 - pick(3);
            }
            if (chance == 1) {
                return bound + pick(3);
            }
            return bound < 1 ? 0 : pick(bound);
        }

        void play() {
            for (int call = 0; call < CALLS; call++) {
                boolean isGrowing = oracle.featureCount() < size && pick(4) == 0;
                int kind = isGrowing ? 0 : pick(40);
                String told = "call " + call;
                if (kind < 13) {
                    change(told, kind);
                } else {
                    ask(told, kind);
                }
            }
        }

        private void change(String told, int kind) {
            int f = around(oracle.featureCount());
            int g = around(oracle.featureCount());
            int small = around(4);
            int cost = worth();
            int value = worth();
            switch (kind) {
                case 0 -> {
                    if (oracle.featureCount() < size || size == 12) {
                        same(told + " addFeature", () -> x.addFeature(f, small), () -> oracle.addFeature(f, small));
                    }
                }
                case 1 -> same(told + " setRelation", () -> x.setRelation(f, small), () -> oracle.setRelation(f, small));
                case 2, 3, 4 -> same(told + " setWorth", () -> bit(x.setWorth(f, cost, value)), () -> bit(oracle.setWorth(f, cost, value)));
                case 5, 6 -> {
                    int which = around(2);
                    same(told + " addConstraint", () -> x.addConstraint(which, f, g), () -> oracle.addConstraint(which, f, g));
                }
                case 7 -> {
                    int k = around(5);
                    boolean isOn = pick(2) == 0;
                    same(told + " turn", () -> bit(x.turn(k, isOn)), () -> bit(oracle.turn(k, isOn)));
                }
                case 8 -> same(told + " dropConstraint", x::dropConstraint, oracle::dropConstraint);
                case 9, 10 -> {
                    int decision = around(3);
                    same(told + " decide", () -> x.decide(f, decision), () -> oracle.decide(f, decision));
                }
                case 11 -> same(told + " reopen", x::reopen, oracle::reopen);
                default -> {
                    int budget = pick(3) == 0 ? -1 : pick(8) == 0 ? 19999 + pick(4) : around(40);
                    same(told + " setBudget", () -> x.setBudget(budget), () -> oracle.setBudget(budget));
                }
            }
        }

        /** Small worths meet many ties, great ones the limits. */
        private int worth() {
            return pick(20) == 0 ? 998 + pick(5) : around(6);
        }

        private void ask(String told, int kind) {
            int f = around(oracle.featureCount());
            int g = around(oracle.featureCount());
            int c = around(1 << oracle.featureCount());
            switch (kind) {
                case 13 -> same(told + " featureCount", x::featureCount, oracle::featureCount);
                case 14 -> same(told + " violations", () -> x.violations(c), () -> oracle.violations(c));
                case 15 -> same(told + " costOf", () -> x.costOf(c), () -> oracle.costOf(c));
                case 16 -> same(told + " valueOf", () -> x.valueOf(c), () -> oracle.valueOf(c));
                case 17 -> same(told + " productCount", x::productCount, oracle::productCount);
                case 18 -> {
                    int index = around(oracle.productCount());
                    same(told + " product", () -> x.product(index), () -> oracle.product(index));
                }
                case 19 -> same(told + " isDead", () -> bit(x.isDead(f)), () -> bit(oracle.isDead(f)));
                case 20 -> same(told + " isCore", () -> bit(x.isCore(f)), () -> bit(oracle.isCore(f)));
                case 21 -> same(told + " isFalselyFree", () -> bit(x.isFalselyFree(f)), () -> bit(oracle.isFalselyFree(f)));
                case 22 -> same(told + " areTogether", () -> bit(x.areTogether(f, g)), () -> bit(oracle.areTogether(f, g)));
                case 23 -> same(told + " bundles", x::bundles, oracle::bundles);
                case 24, 25 -> same(told + " blame", () -> x.blame(f), () -> oracle.blame(f));
                default -> askOfCandidates(told, kind, f, c);
            }
        }

        private void askOfCandidates(String told, int kind, int f, int c) {
            switch (kind) {
                case 26 -> same(told + " candidateCount", x::candidateCount, oracle::candidateCount);
                case 27 -> {
                    int index = around(oracle.candidateCount());
                    same(told + " candidate", () -> x.candidate(index), () -> oracle.candidate(index));
                }
                case 28 -> same(told + " forced", x::forced, oracle::forced);
                case 29 -> same(told + " ruledOut", x::ruledOut, oracle::ruledOut);
                case 30 -> same(told + " share", () -> x.share(f), () -> oracle.share(f));
                case 31 -> same(told + " question", x::question, oracle::question);
                case 32 -> same(told + " cheapest", x::cheapest, oracle::cheapest);
                case 33 -> same(told + " best", x::best, oracle::best);
                case 34 -> same(told + " frontSize", x::frontSize, oracle::frontSize);
                case 35 -> {
                    int index = around(oracle.frontSize());
                    same(told + " front", () -> x.front(index), () -> oracle.front(index));
                }
                case 36 -> same(told + " nearest", () -> x.nearest(c), () -> oracle.nearest(c));
                case 37 -> same(told + " pairCount", x::pairCount, oracle::pairCount);
                case 38 -> {
                    int index = around(oracle.sampleSize());
                    if (pick(2) == 0) {
                        same(told + " sampleSize", x::sampleSize, oracle::sampleSize);
                    } else {
                        same(told + " sample", () -> x.sample(index), () -> oracle.sample(index));
                    }
                }
                default -> {
                    Check.due(oracle.digest(), x.digest());
                }
            }
        }

        private static int bit(boolean answer) {
            return answer ? 1 : 0;
        }

        private static void same(String told, DoubleSupplier call, DoubleSupplier due) {
            String got = answer(call);
            String want = answer(due);
            if (!got.equals(want)) {
                throw new AssertionError(told + " answered " + got + ", due is " + want);
            }
        }

        private static String answer(DoubleSupplier call) {
            try {
                return "" + call.getAsDouble();
            } catch (RuntimeException e) {
                return e.getClass().getName();
            }
        }
    }
}

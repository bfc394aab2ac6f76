import java.util.Arrays;

/**
 * An analyzer for product lines whose features form a tree, with constraints, costs and values.
 * A configuration is told as the sum of the powers 2^k of the numbers k of its features.
 */
public final class FeatureAnalyzer {
    private static final int MAX_FEATURES = 12;
    private static final int MAX_CONSTRAINTS = 10;
    private static final int MAX_WORTH = 1000;
    private static final int MAX_BUDGET = 20000;
    private static final int MAX_COST = MAX_FEATURES * MAX_WORTH;
    // A product has the feature 0, so only every other configuration can be one.
    private static final int MAX_PRODUCTS = 1 << (MAX_FEATURES - 1);
    // Four for each two of the features.
    private static final int MAX_PAIRS = 2 * MAX_FEATURES * (MAX_FEATURES - 1);

    private static final int MUST = 0;
    private static final int MAY = 1;
    private static final int ONE = 2;
    private static final int SOME = 3;
    private static final int RELATIONS = 4;

    private static final int REQUIRE = 0;
    private static final int EXCLUDE = 1;

    private static final int OPEN = 0;
    private static final int IN = 1;
    private static final int OUT = 2;

    private static final int ROOT = 0;
    private static final int NONE = -1;
    private static final int DIGEST_START = 139;

    private final Features features = new Features();
    private final Constraints constraints = new Constraints();
    private final Choices choices = new Choices();
    // The configurations that break no rule of the tree; constraints make products of them.
    private final ConfigurationRow shapes = new ConfigurationRow();
    private final ConfigurationRow products = new ConfigurationRow();
    private final ConfigurationRow candidates = new ConfigurationRow();
    private final ConfigurationRow unbeaten = new ConfigurationRow();
    private final ConfigurationRow samples = new ConfigurationRow();
    private final ValueLadder ladder = new ValueLadder();
    private final PairBoard pairs = new PairBoard();

    public FeatureAnalyzer() {
    }

    // ---- features and constraints

    public int addFeature(int parent, int relation)
            throws IndexOutOfBoundsException, IllegalArgumentException, IllegalStateException {
        requireFeature(parent);
        requireRelation(relation);
        if (features.count() >= MAX_FEATURES) {
            throw new IllegalStateException("there are 12 features");
        }
        forgetShapes();
        return features.append(parent, relation);
    }

    public int setRelation(int feature, int relation)
            throws IndexOutOfBoundsException, IllegalArgumentException {
        requireFeature(feature);
        if (feature == ROOT) {
            throw new IndexOutOfBoundsException("the feature 0 has no relation");
        }
        requireRelation(relation);
        forgetShapes();
        return features.relate(feature, relation);
    }

    public boolean setWorth(int feature, int cost, int value)
            throws IndexOutOfBoundsException, IllegalArgumentException {
        requireFeature(feature);
        if (cost < 0 || cost > MAX_WORTH || value < 0 || value > MAX_WORTH) {
            throw new IllegalArgumentException("cost or value is not 0 to 1000");
        }
        forgetCandidates();
        return features.rate(feature, cost, value);
    }

    public int addConstraint(int kind, int a, int b)
            throws IllegalArgumentException, IndexOutOfBoundsException, IllegalStateException {
        if (kind != REQUIRE && kind != EXCLUDE) {
            throw new IllegalArgumentException("the kind is not 0 or 1");
        }
        requireFeature(a);
        requireFeature(b);
        if (constraints.count() >= MAX_CONSTRAINTS) {
            throw new IllegalStateException("there are 10 constraints");
        }
        forgetProducts();
        return constraints.append(kind, a, b);
    }

    public boolean turn(int constraint, boolean isOn) throws IndexOutOfBoundsException {
        if (constraint < 0 || constraint >= constraints.count()) {
            throw new IndexOutOfBoundsException("there is no such constraint");
        }
        forgetProducts();
        return constraints.flip(constraint, isOn);
    }

    public int dropConstraint() throws IllegalStateException {
        if (constraints.count() == 0) {
            throw new IllegalStateException("there is no constraint");
        }
        forgetProducts();
        return constraints.removeLast();
    }

    public int featureCount() {
        return features.count();
    }

    // ---- decisions

    public int decide(int feature, int decision)
            throws IndexOutOfBoundsException, IllegalArgumentException {
        requireFeature(feature);
        if (decision < OPEN || decision > OUT) {
            throw new IllegalArgumentException("the decision is not 0 to 2");
        }
        forgetCandidates();
        return choices.mark(feature, decision);
    }

    public int reopen() {
        forgetCandidates();
        return choices.openAll();
    }

    public int setBudget(int budget) throws IllegalArgumentException {
        if (budget < NONE || budget > MAX_BUDGET) {
            throw new IllegalArgumentException("the budget is not -1 to 20000");
        }
        forgetCandidates();
        return choices.limit(budget);
    }

    // ---- configurations and products

    public int violations(int configuration) throws IllegalArgumentException {
        requireConfiguration(configuration);
        return features.countBroken(configuration)
                + Integer.bitCount(constraints.brokenBy(configuration));
    }

    public int costOf(int configuration) throws IllegalArgumentException {
        requireConfiguration(configuration);
        return features.costSum(configuration);
    }

    public int valueOf(int configuration) throws IllegalArgumentException {
        requireConfiguration(configuration);
        return features.valueSum(configuration);
    }

    public int productCount() {
        refresh();
        return products.size();
    }

    public int product(int index) throws IndexOutOfBoundsException {
        refresh();
        return memberOf(products, index);
    }

    public boolean isDead(int feature) throws IndexOutOfBoundsException {
        requireFeature(feature);
        refresh();
        return !has(products.union(), feature);
    }

    public boolean isCore(int feature) throws IndexOutOfBoundsException {
        requireFeature(feature);
        refresh();
        return products.size() > 0 && has(products.common(), feature);
    }

    public boolean isFalselyFree(int feature) throws IndexOutOfBoundsException {
        requireFeature(feature);
        if (feature == ROOT || features.relationOf(feature) != MAY) {
            return false;
        }
        refresh();
        int parent = features.parentOf(feature);
        boolean parentIsHad = false;
        for (int i = 0; i < products.size(); i++) {
            if (has(products.at(i), parent)) {
                parentIsHad = true;
                if (!has(products.at(i), feature)) {
                    return false;
                }
            }
        }
        return parentIsHad;
    }

    public boolean areTogether(int a, int b) throws IndexOutOfBoundsException {
        requireFeature(a);
        requireFeature(b);
        refresh();
        return products.join(a, b);
    }

    public int bundles() {
        refresh();
        int count = 0;
        for (int f = 0; f < features.count(); f++) {
            if (isFirstOfBundle(f)) {
                count++;
            }
        }
        return count;
    }

    public int blame(int feature) throws IndexOutOfBoundsException {
        requireFeature(feature);
        refresh();
        // The tree alone keeps no feature out, so with all constraints that are on it can be had.
        int least = constraints.allOn();
        for (int i = 0; i < shapes.size(); i++) {
            if (has(shapes.at(i), feature)) {
                int broken = constraints.brokenBy(shapes.at(i));
                if (isLesserSet(broken, least)) {
                    least = broken;
                }
            }
        }
        return least;
    }

    // ---- candidates

    public int candidateCount() {
        refresh();
        return candidates.size();
    }

    public int candidate(int index) throws IndexOutOfBoundsException {
        refresh();
        return memberOf(candidates, index);
    }

    public int forced() {
        refresh();
        if (candidates.size() == 0) {
            return 0;
        }
        return candidates.common() & openFeatures();
    }

    public int ruledOut() {
        refresh();
        if (candidates.size() == 0) {
            return 0;
        }
        return ~candidates.union() & openFeatures();
    }

    public double share(int feature) throws IndexOutOfBoundsException {
        requireFeature(feature);
        refresh();
        if (candidates.size() == 0) {
            return 0.0;
        }
        return (double) candidates.countWith(feature) / (double) candidates.size();
    }

    public int question() {
        refresh();
        int found = NONE;
        int leastGap = candidates.size();
        for (int f = 0; f < features.count(); f++) {
            int with = candidates.countWith(f);
            int without = candidates.size() - with;
            int gap = Math.abs(with - without);
            // A gap as great as the number of the candidates means that with or without is 0.
            if (gap < leastGap) {
                leastGap = gap;
                found = f;
            }
        }
        return found;
    }

    public int cheapest() {
        refresh();
        int found = NONE;
        int leastCost = 0;
        for (int i = 0; i < candidates.size(); i++) {
            int cost = features.costSum(candidates.at(i));
            if (found == NONE || cost < leastCost) {
                found = candidates.at(i);
                leastCost = cost;
            }
        }
        return found;
    }

    public int best() {
        refresh();
        int found = NONE;
        int foundValue = 0;
        int foundCost = 0;
        for (int i = 0; i < candidates.size(); i++) {
            int value = features.valueSum(candidates.at(i));
            int cost = features.costSum(candidates.at(i));
            if (found == NONE || value > foundValue || (value == foundValue && cost < foundCost)) {
                found = candidates.at(i);
                foundValue = value;
                foundCost = cost;
            }
        }
        return found;
    }

    public int frontSize() {
        refreshUnbeaten();
        return unbeaten.size();
    }

    public int front(int index) throws IndexOutOfBoundsException {
        refreshUnbeaten();
        return memberOf(unbeaten, index);
    }

    public int nearest(int configuration) throws IllegalArgumentException {
        requireConfiguration(configuration);
        refresh();
        int found = NONE;
        int leastDistance = 0;
        for (int i = 0; i < candidates.size(); i++) {
            int distance = Integer.bitCount(candidates.at(i) ^ configuration);
            if (found == NONE || distance < leastDistance) {
                found = candidates.at(i);
                leastDistance = distance;
            }
        }
        return found;
    }

    // ---- pairs

    public int pairCount() {
        refresh();
        return countPossiblePairs();
    }

    public int sampleSize() {
        refreshSamples();
        return samples.size();
    }

    public int sample(int index) throws IndexOutOfBoundsException {
        refreshSamples();
        return memberOf(samples, index);
    }

    public long digest() {
        refresh();
        long d = fold(DIGEST_START, features.count());
        d = foldFeatures(d);
        d = constraints.foldInto(d);
        d = fold(d, choices.budget());
        d = fold(d, products.size());
        d = fold(d, candidates.size());
        for (int i = 0; i < candidates.size(); i++) {
            d = fold(d, candidates.at(i));
        }
        return d;
    }

    // ---- what the arguments have to be

    private void requireFeature(int feature) {
        if (feature < 0 || feature >= features.count()) {
            throw new IndexOutOfBoundsException("there is no such feature");
        }
    }

    private static void requireRelation(int relation) {
        if (relation < MUST || relation > SOME) {
            throw new IllegalArgumentException("the relation is not 0 to 3");
        }
    }

    private void requireConfiguration(int configuration) {
        if (configuration < 0 || configuration > features.all()) {
            throw new IllegalArgumentException("not a configuration of the features");
        }
    }

    private static int memberOf(ConfigurationRow row, int index) {
        if (index < 0 || index >= row.size()) {
            throw new IndexOutOfBoundsException("there is no such index");
        }
        return row.at(index);
    }

    // ---- the rows that are kept until something changes them

    private void forgetShapes() {
        shapes.forget();
        forgetProducts();
    }

    private void forgetProducts() {
        products.forget();
        forgetCandidates();
    }

    private void forgetCandidates() {
        candidates.forget();
        unbeaten.forget();
        samples.forget();
    }

    private void refresh() {
        if (!shapes.isKnown()) {
            findShapes();
        }
        if (!products.isKnown()) {
            findProducts();
        }
        if (!candidates.isKnown()) {
            findCandidates();
        }
    }

    private void findShapes() {
        shapes.restart();
        // Only odd numbers tell configurations that have the feature 0.
        for (int c = 1; c <= features.all(); c += 2) {
            if (features.countBroken(c) == 0) {
                shapes.append(c);
            }
        }
    }

    private void findProducts() {
        products.restart();
        for (int i = 0; i < shapes.size(); i++) {
            if (constraints.brokenBy(shapes.at(i)) == 0) {
                products.append(shapes.at(i));
            }
        }
    }

    private void findCandidates() {
        candidates.restart();
        for (int i = 0; i < products.size(); i++) {
            int product = products.at(i);
            if (choices.allow(product, features.costSum(product))) {
                candidates.append(product);
            }
        }
    }

    private void refreshUnbeaten() {
        refresh();
        if (unbeaten.isKnown()) {
            return;
        }
        unbeaten.restart();
        ladder.restart();
        for (int i = 0; i < candidates.size(); i++) {
            int candidate = candidates.at(i);
            ladder.put(features.costSum(candidate), features.valueSum(candidate));
        }
        ladder.level();
        for (int i = 0; i < candidates.size(); i++) {
            int candidate = candidates.at(i);
            if (ladder.isTop(features.costSum(candidate), features.valueSum(candidate))) {
                unbeaten.append(candidate);
            }
        }
    }

    private void refreshSamples() {
        refresh();
        if (samples.isKnown()) {
            return;
        }
        samples.restart();
        int left = countPossiblePairs();
        pairs.restart();
        // Each candidate that is appended shows a new pair, so there are no more than pairs.
        for (int round = 0; round < MAX_PAIRS && left > 0; round++) {
            int next = mostTelling();
            left -= pairs.show(next, features.count());
            samples.append(next);
        }
    }

    // ---- parts of answers

    private static boolean has(int configuration, int feature) {
        return ((configuration >> feature) & 1) == 1;
    }

    private static boolean isLesserSet(int one, int other) {
        int sizeOfOne = Integer.bitCount(one);
        int sizeOfOther = Integer.bitCount(other);
        return sizeOfOne < sizeOfOther || (sizeOfOne == sizeOfOther && one < other);
    }

    private boolean isFirstOfBundle(int feature) {
        for (int f = 0; f < feature; f++) {
            if (products.join(f, feature)) {
                return false;
            }
        }
        return true;
    }

    private int openFeatures() {
        return features.all() & ~choices.decided();
    }

    private int countPossiblePairs() {
        pairs.restart();
        int count = 0;
        for (int i = 0; i < candidates.size(); i++) {
            count += pairs.show(candidates.at(i), features.count());
        }
        return count;
    }

    private int mostTelling() {
        int found = NONE;
        int most = 0;
        for (int i = 0; i < candidates.size(); i++) {
            int fresh = pairs.countFresh(candidates.at(i), features.count());
            if (found == NONE || fresh > most) {
                found = candidates.at(i);
                most = fresh;
            }
        }
        return found;
    }

    private static long fold(long d, int x) {
        return d * 31 + x;
    }

    private long foldFeatures(long start) {
        long d = start;
        for (int f = ROOT + 1; f < features.count(); f++) {
            d = fold(d, features.parentOf(f));
            d = fold(d, features.relationOf(f));
        }
        for (int f = ROOT; f < features.count(); f++) {
            d = fold(d, features.costSum(1 << f));
            d = fold(d, features.valueSum(1 << f));
            d = fold(d, choices.decisionOn(f));
        }
        return d;
    }

    /** The tree of the features, and what they cost and are worth. */
    private static final class Features {
        private int count = 1;
        private final int[] parents = new int[MAX_FEATURES];
        private final int[] relations = new int[MAX_FEATURES];
        private final int[] costs = new int[MAX_FEATURES];
        private final int[] values = new int[MAX_FEATURES];
        private final int[] offspring = new int[MAX_FEATURES];
        // children[r][f] is the set of the children of f that have the relation r.
        private final int[][] children = new int[RELATIONS][MAX_FEATURES];

        int count() {
            return count;
        }

        int all() {
            return (1 << count) - 1;
        }

        int parentOf(int feature) {
            return parents[feature];
        }

        int relationOf(int feature) {
            return relations[feature];
        }

        int append(int parent, int relation) {
            int feature = count;
            count++;
            parents[feature] = parent;
            relations[feature] = relation;
            offspring[parent] |= 1 << feature;
            children[relation][parent] |= 1 << feature;
            return feature;
        }

        int relate(int feature, int relation) {
            int before = relations[feature];
            int parent = parents[feature];
            children[before][parent] &= ~(1 << feature);
            children[relation][parent] |= 1 << feature;
            relations[feature] = relation;
            return before;
        }

        boolean rate(int feature, int cost, int value) {
            boolean isOther = costs[feature] != cost || values[feature] != value;
            costs[feature] = cost;
            values[feature] = value;
            return isOther;
        }

        int costSum(int configuration) {
            return sumOver(configuration, costs);
        }

        int valueSum(int configuration) {
            return sumOver(configuration, values);
        }

        private int sumOver(int configuration, int[] row) {
            int sum = 0;
            for (int f = 0; f < count; f++) {
                if (has(configuration, f)) {
                    sum += row[f];
                }
            }
            return sum;
        }

        int countBroken(int configuration) {
            int broken = has(configuration, ROOT) ? 0 : 1;
            int withParent = 1 << ROOT;
            for (int f = 0; f < count; f++) {
                if (has(configuration, f)) {
                    withParent |= offspring[f];
                    broken += countBrokenBelow(f, configuration);
                }
            }
            return broken + Integer.bitCount(configuration & ~withParent);
        }

        private int countBrokenBelow(int feature, int configuration) {
            int broken = Integer.bitCount(children[MUST][feature] & ~configuration);
            int ones = children[ONE][feature];
            if (ones != 0 && Integer.bitCount(ones & configuration) != 1) {
                broken++;
            }
            int somes = children[SOME][feature];
            if (somes != 0 && (somes & configuration) == 0) {
                broken++;
            }
            return broken;
        }
    }

    /** The constraints in the order of their creation. */
    private static final class Constraints {
        private int count = 0;
        private int on = 0;
        private final int[] kinds = new int[MAX_CONSTRAINTS];
        private final int[] firsts = new int[MAX_CONSTRAINTS];
        private final int[] seconds = new int[MAX_CONSTRAINTS];

        int count() {
            return count;
        }

        int allOn() {
            return on;
        }

        int append(int kind, int a, int b) {
            int constraint = count;
            count++;
            kinds[constraint] = kind;
            firsts[constraint] = a;
            seconds[constraint] = b;
            on |= 1 << constraint;
            return constraint;
        }

        boolean flip(int constraint, boolean isOn) {
            boolean before = has(on, constraint);
            on = isOn ? on | (1 << constraint) : on & ~(1 << constraint);
            return before;
        }

        int removeLast() {
            count--;
            on &= ~(1 << count);
            return count;
        }

        int brokenBy(int configuration) {
            int broken = 0;
            for (int k = 0; k < count; k++) {
                if (has(on, k) && forbids(k, configuration)) {
                    broken |= 1 << k;
                }
            }
            return broken;
        }

        private boolean forbids(int constraint, int configuration) {
            boolean wantsSecond = kinds[constraint] == REQUIRE;
            return has(configuration, firsts[constraint])
                    && has(configuration, seconds[constraint]) != wantsSecond;
        }

        long foldInto(long start) {
            long d = fold(start, count);
            for (int k = 0; k < count; k++) {
                d = fold(d, kinds[k]);
                d = fold(d, firsts[k]);
                d = fold(d, seconds[k]);
                d = fold(d, has(on, k) ? 1 : 0);
            }
            return d;
        }
    }

    /** What makes a candidate of a product: the decisions and the budget. */
    private static final class Choices {
        private int in = 0;
        private int out = 0;
        private int budget = NONE;

        int budget() {
            return budget;
        }

        int decided() {
            return in | out;
        }

        int decisionOn(int feature) {
            if (has(in, feature)) {
                return IN;
            }
            return has(out, feature) ? OUT : OPEN;
        }

        int mark(int feature, int decision) {
            int before = decisionOn(feature);
            int bit = 1 << feature;
            in = decision == IN ? in | bit : in & ~bit;
            out = decision == OUT ? out | bit : out & ~bit;
            return before;
        }

        int openAll() {
            int before = Integer.bitCount(decided());
            in = 0;
            out = 0;
            return before;
        }

        int limit(int newBudget) {
            int before = budget;
            budget = newBudget;
            return before;
        }

        boolean allow(int product, int cost) {
            return (product & in) == in
                    && (product & out) == 0
                    && (budget == NONE || cost <= budget);
        }
    }

    /** A row of configurations, and whether it still holds. */
    private static final class ConfigurationRow {
        private final int[] members = new int[MAX_PRODUCTS];
        private int size = 0;
        private boolean isKnown = false;

        boolean isKnown() {
            return isKnown;
        }

        void forget() {
            isKnown = false;
        }

        void restart() {
            size = 0;
            isKnown = true;
        }

        void append(int configuration) {
            if (size < members.length) {
                members[size] = configuration;
                size++;
            }
        }

        int size() {
            return size;
        }

        int at(int index) {
            return members[index];
        }

        int common() {
            int set = ~0;
            for (int i = 0; i < size; i++) {
                set &= members[i];
            }
            return set;
        }

        int union() {
            int set = 0;
            for (int i = 0; i < size; i++) {
                set |= members[i];
            }
            return set;
        }

        int countWith(int feature) {
            int count = 0;
            for (int i = 0; i < size; i++) {
                if (has(members[i], feature)) {
                    count++;
                }
            }
            return count;
        }

        /** Whether each member has both features or none of them. */
        boolean join(int a, int b) {
            for (int i = 0; i < size; i++) {
                if (has(members[i], a) != has(members[i], b)) {
                    return false;
                }
            }
            return true;
        }
    }

    /**
     * For each cost the greatest value that is had for it or for less. It tells who is beaten
     * without a comparison of each candidate with each other one.
     */
    private static final class ValueLadder {
        // By far the longest row, so only an analyzer that is asked for a front makes it.
        private int[] greatest = new int[0];

        void restart() {
            if (greatest.length == 0) {
                greatest = new int[MAX_COST + 1];
            }
            Arrays.fill(greatest, NONE);
        }

        void put(int cost, int value) {
            if (cost >= 0 && cost < greatest.length) {
                greatest[cost] = Math.max(greatest[cost], value);
            }
        }

        void level() {
            for (int cost = 1; cost < greatest.length; cost++) {
                greatest[cost] = Math.max(greatest[cost], greatest[cost - 1]);
            }
        }

        boolean isTop(int cost, int value) {
            if (cost < 0 || cost >= greatest.length || greatest[cost] != value) {
                return false;
            }
            return cost == 0 || greatest[cost - 1] < value;
        }
    }

    /**
     * Which pairs have been shown. A literal is a feature that is there (its number) or one that
     * is not there (its number + 12); a pair is two literals of different features.
     */
    private static final class PairBoard {
        // For each literal the literals of later features that it has been shown with.
        private final int[] shown = new int[2 * MAX_FEATURES];

        void restart() {
            Arrays.fill(shown, 0);
        }

        /** How many pairs of a configuration have not been shown. */
        int countFresh(int configuration, int featureCount) {
            int fresh = 0;
            int later = literalsOf(configuration, featureCount);
            for (int f = 0; f < featureCount; f++) {
                int literal = literalOn(f, configuration);
                later &= ~(1 << literal);
                fresh += Integer.bitCount(later & ~shown[literal]);
            }
            return fresh;
        }

        /** Marks the pairs of a configuration as shown, and tells how many were not before. */
        int show(int configuration, int featureCount) {
            int fresh = countFresh(configuration, featureCount);
            int later = literalsOf(configuration, featureCount);
            for (int f = 0; f < featureCount; f++) {
                int literal = literalOn(f, configuration);
                later &= ~(1 << literal);
                shown[literal] |= later;
            }
            return fresh;
        }

        private static int literalsOf(int configuration, int featureCount) {
            int missing = ~configuration & ((1 << featureCount) - 1);
            return configuration | (missing << MAX_FEATURES);
        }

        private static int literalOn(int feature, int configuration) {
            return has(configuration, feature) ? feature : feature + MAX_FEATURES;
        }
    }
}

import java.util.ArrayList;
import java.util.HashSet;
import java.util.List;
import java.util.Set;

/** The document once more, word by word and slowly: what random runs are compared with. */
final class Oracle {
    private final List<int[]> features = new ArrayList<>();
    private final List<int[]> constraints = new ArrayList<>();
    private int budget = -1;

    private static final int PARENT = 0;
    private static final int RELATION = 1;
    private static final int COST = 2;
    private static final int VALUE = 3;
    private static final int DECISION = 4;

    Oracle() {
        features.add(new int[5]);
    }

    private void wantFeature(int f) {
        if (f < 0 || f > features.size() - 1) {
            throw new IndexOutOfBoundsException();
        }
    }

    private void wantArgument(boolean isFine) {
        if (!isFine) {
            throw new IllegalArgumentException();
        }
    }

    private void wantConfiguration(int c) {
        wantArgument(c >= 0 && c < 1 << features.size());
    }

    private static int element(List<Integer> row, int index) {
        if (index < 0 || index >= row.size()) {
            throw new IndexOutOfBoundsException();
        }
        return row.get(index);
    }

    int addFeature(int parent, int relation) {
        wantFeature(parent);
        wantArgument(relation >= 0 && relation <= 3);
        if (features.size() == 12) {
            throw new IllegalStateException();
        }
        features.add(new int[] {parent, relation, 0, 0, 0});
        return features.size() - 1;
    }

    int setRelation(int feature, int relation) {
        wantFeature(feature);
        wantFeature(feature == 0 ? -1 : feature);
        wantArgument(relation >= 0 && relation <= 3);
        int before = features.get(feature)[RELATION];
        features.get(feature)[RELATION] = relation;
        return before;
    }

    boolean setWorth(int feature, int cost, int value) {
        wantFeature(feature);
        wantArgument(cost >= 0 && cost <= 1000 && value >= 0 && value <= 1000);
        int[] row = features.get(feature);
        boolean isSame = row[COST] == cost && row[VALUE] == value;
        row[COST] = cost;
        row[VALUE] = value;
        return !isSame;
    }

    int addConstraint(int kind, int a, int b) {
        wantArgument(kind == 0 || kind == 1);
        wantFeature(a);
        wantFeature(b);
        if (constraints.size() == 10) {
            throw new IllegalStateException();
        }
        constraints.add(new int[] {kind, a, b, 1});
        return constraints.size() - 1;
    }

    boolean turn(int constraint, boolean isOn) {
        if (constraint < 0 || constraint >= constraints.size()) {
            throw new IndexOutOfBoundsException();
        }
        boolean before = constraints.get(constraint)[3] == 1;
        constraints.get(constraint)[3] = isOn ? 1 : 0;
        return before;
    }

    int dropConstraint() {
        if (constraints.isEmpty()) {
            throw new IllegalStateException();
        }
        constraints.remove(constraints.size() - 1);
        return constraints.size();
    }

    int featureCount() {
        return features.size();
    }

    int decide(int feature, int decision) {
        wantFeature(feature);
        wantArgument(decision >= 0 && decision <= 2);
        int before = features.get(feature)[DECISION];
        features.get(feature)[DECISION] = decision;
        return before;
    }

    int reopen() {
        int count = 0;
        for (int[] row : features) {
            count += row[DECISION] == 0 ? 0 : 1;
            row[DECISION] = 0;
        }
        return count;
    }

    int setBudget(int newBudget) {
        wantArgument(newBudget >= -1 && newBudget <= 20000);
        int before = budget;
        budget = newBudget;
        return before;
    }

    private static boolean in(int c, int f) {
        return (c & 1 << f) != 0;
    }

    private int brokenTree(int c) {
        int broken = in(c, 0) ? 0 : 1;
        for (int f = 1; f < features.size(); f++) {
            int parent = features.get(f)[PARENT];
            if (in(c, f) && !in(c, parent)) {
                broken++;
            }
            if (features.get(f)[RELATION] == 0 && in(c, parent) && !in(c, f)) {
                broken++;
            }
        }
        for (int f = 0; f < features.size(); f++) {
            int[] all = new int[4];
            int[] had = new int[4];
            for (int g = 1; g < features.size(); g++) {
                if (features.get(g)[PARENT] == f) {
                    all[features.get(g)[RELATION]]++;
                    had[features.get(g)[RELATION]] += in(c, g) ? 1 : 0;
                }
            }
            if (in(c, f) && all[2] > 0 && had[2] != 1) {
                broken++;
            }
            if (in(c, f) && all[3] > 0 && had[3] < 1) {
                broken++;
            }
        }
        return broken;
    }

    private boolean breaks(int c, int[] constraint) {
        if (constraint[3] == 0) {
            return false;
        }
        boolean a = in(c, constraint[1]);
        boolean b = in(c, constraint[2]);
        return constraint[0] == 0 ? a && !b : a && b;
    }

    int violations(int c) {
        wantConfiguration(c);
        int broken = brokenTree(c);
        for (int[] constraint : constraints) {
            broken += breaks(c, constraint) ? 1 : 0;
        }
        return broken;
    }

    private int sum(int c, int what) {
        int sum = 0;
        for (int f = 0; f < features.size(); f++) {
            sum += in(c, f) ? features.get(f)[what] : 0;
        }
        return sum;
    }

    int costOf(int c) {
        wantConfiguration(c);
        return sum(c, COST);
    }

    int valueOf(int c) {
        wantConfiguration(c);
        return sum(c, VALUE);
    }

    private List<Integer> products() {
        List<Integer> products = new ArrayList<>();
        for (int c = 0; c < 1 << features.size(); c++) {
            if (violations(c) == 0) {
                products.add(c);
            }
        }
        return products;
    }

    int productCount() {
        return products().size();
    }

    int product(int index) {
        return element(products(), index);
    }

    private static int countWith(List<Integer> row, int f) {
        int count = 0;
        for (int c : row) {
            count += in(c, f) ? 1 : 0;
        }
        return count;
    }

    boolean isDead(int feature) {
        wantFeature(feature);
        return countWith(products(), feature) == 0;
    }

    boolean isCore(int feature) {
        wantFeature(feature);
        List<Integer> products = products();
        return !products.isEmpty() && countWith(products, feature) == products.size();
    }

    boolean isFalselyFree(int feature) {
        wantFeature(feature);
        if (feature == 0 || features.get(feature)[RELATION] != 1) {
            return false;
        }
        List<Integer> withParent = new ArrayList<>();
        for (int c : products()) {
            if (in(c, features.get(feature)[PARENT])) {
                withParent.add(c);
            }
        }
        return !withParent.isEmpty() && countWith(withParent, feature) == withParent.size();
    }

    boolean areTogether(int a, int b) {
        wantFeature(a);
        wantFeature(b);
        for (int c : products()) {
            if (in(c, a) ^ in(c, b)) {
                return false;
            }
        }
        return true;
    }

    /** Two features are together if they are in the same products. */
    int bundles() {
        Set<List<Integer>> wheres = new HashSet<>();
        for (int f = 0; f < features.size(); f++) {
            List<Integer> where = new ArrayList<>();
            for (int c : products()) {
                if (in(c, f)) {
                    where.add(c);
                }
            }
            wheres.add(where);
        }
        return wheres.size();
    }

    int blame(int feature) {
        wantFeature(feature);
        for (int size = 0; size <= constraints.size(); size++) {
            for (int set = 0; set < 1 << constraints.size(); set++) {
                if (Integer.bitCount(set) == size && isAllOn(set) && frees(set, feature)) {
                    return set;
                }
            }
        }
        return 0;
    }

    private boolean isAllOn(int set) {
        for (int k = 0; k < constraints.size(); k++) {
            if (in(set, k) && constraints.get(k)[3] == 0) {
                return false;
            }
        }
        return true;
    }

    private boolean frees(int set, int feature) {
        for (int c = 0; c < 1 << features.size(); c++) {
            boolean isFree = in(c, feature);
            for (int k = 0; k < constraints.size() && isFree; k++) {
                isFree = in(set, k) || !breaks(c, constraints.get(k));
            }
            if (isFree && brokenTree(c) == 0) {
                return true;
            }
        }
        return false;
    }

    private List<Integer> candidates() {
        List<Integer> candidates = new ArrayList<>();
        for (int c : products()) {
            boolean isFine = budget == -1 || sum(c, COST) <= budget;
            for (int f = 0; f < features.size(); f++) {
                int decision = features.get(f)[DECISION];
                isFine &= decision != 1 || in(c, f);
                isFine &= decision != 2 || !in(c, f);
            }
            if (isFine) {
                candidates.add(c);
            }
        }
        return candidates;
    }

    int candidateCount() {
        return candidates().size();
    }

    int candidate(int index) {
        return element(candidates(), index);
    }

    private int openOnesThat(int count) {
        int set = 0;
        List<Integer> candidates = candidates();
        for (int f = 0; f < features.size(); f++) {
            boolean isOpen = features.get(f)[DECISION] == 0;
            if (isOpen && !candidates.isEmpty() && countWith(candidates, f) == count) {
                set += 1 << f;
            }
        }
        return set;
    }

    int forced() {
        return openOnesThat(candidateCount());
    }

    int ruledOut() {
        return openOnesThat(0);
    }

    double share(int feature) {
        wantFeature(feature);
        List<Integer> candidates = candidates();
        return candidates.isEmpty() ? 0 : (double) countWith(candidates, feature) / candidates.size();
    }

    int question() {
        List<Integer> candidates = candidates();
        int found = -1;
        int least = Integer.MAX_VALUE;
        for (int f = 0; f < features.size(); f++) {
            int with = countWith(candidates, f);
            int without = candidates.size() - with;
            if (with != 0 && without != 0 && Math.abs(with - without) < least) {
                least = Math.abs(with - without);
                found = f;
            }
        }
        return found;
    }

    int cheapest() {
        return candidates().stream()
                .min((a, b) -> sum(a, COST) != sum(b, COST)
                        ? Integer.compare(sum(a, COST), sum(b, COST)) : Integer.compare(a, b))
                .orElse(-1);
    }

    int best() {
        return candidates().stream()
                .min((a, b) -> {
                    if (sum(a, VALUE) != sum(b, VALUE)) {
                        return Integer.compare(sum(b, VALUE), sum(a, VALUE));
                    }
                    if (sum(a, COST) != sum(b, COST)) {
                        return Integer.compare(sum(a, COST), sum(b, COST));
                    }
                    return Integer.compare(a, b);
                })
                .orElse(-1);
    }

    private List<Integer> unbeaten() {
        List<Integer> candidates = candidates();
        List<Integer> unbeaten = new ArrayList<>();
        for (int c : candidates) {
            int cost = sum(c, COST);
            int value = sum(c, VALUE);
            boolean isBeaten = false;
            for (int i = 0; i < candidates.size() && !isBeaten; i++) {
                int otherCost = sum(candidates.get(i), COST);
                int otherValue = sum(candidates.get(i), VALUE);
                isBeaten = otherCost <= cost && otherValue >= value
                        && !(otherCost == cost && otherValue == value);
            }
            if (!isBeaten) {
                unbeaten.add(c);
            }
        }
        return unbeaten;
    }

    int frontSize() {
        return unbeaten().size();
    }

    int front(int index) {
        return element(unbeaten(), index);
    }

    int nearest(int configuration) {
        wantConfiguration(configuration);
        for (int distance = 0; distance <= features.size(); distance++) {
            for (int c : candidates()) {
                int apart = 0;
                for (int f = 0; f < features.size(); f++) {
                    apart += in(c, f) == in(configuration, f) ? 0 : 1;
                }
                if (apart == distance) {
                    return c;
                }
            }
        }
        return -1;
    }

    private Set<Integer> pairsOf(int c) {
        Set<Integer> pairs = new HashSet<>();
        for (int a = 0; a < features.size(); a++) {
            for (int b = a + 1; b < features.size(); b++) {
                pairs.add(a * 1000 + b * 10 + (in(c, a) ? 2 : 0) + (in(c, b) ? 1 : 0));
            }
        }
        return pairs;
    }

    private Set<Integer> possiblePairs() {
        Set<Integer> pairs = new HashSet<>();
        for (int c : candidates()) {
            pairs.addAll(pairsOf(c));
        }
        return pairs;
    }

    int pairCount() {
        return possiblePairs().size();
    }

    private List<Integer> samples() {
        List<Integer> samples = new ArrayList<>();
        Set<Integer> left = possiblePairs();
        List<Integer> candidates = candidates();
        List<Set<Integer>> shown = new ArrayList<>();
        for (int c : candidates) {
            shown.add(pairsOf(c));
        }
        while (!left.isEmpty()) {
            int next = -1;
            int most = 0;
            for (int i = 0; i < candidates.size(); i++) {
                int fresh = 0;
                for (int pair : shown.get(i)) {
                    fresh += left.contains(pair) ? 1 : 0;
                }
                if (fresh > most) {
                    most = fresh;
                    next = i;
                }
            }
            samples.add(candidates.get(next));
            left.removeAll(shown.get(next));
        }
        return samples;
    }

    int sampleSize() {
        return samples().size();
    }

    int sample(int index) {
        return element(samples(), index);
    }

    long digest() {
        List<Integer> numbers = new ArrayList<>();
        numbers.add(features.size());
        for (int[] row : features.subList(1, features.size())) {
            numbers.add(row[PARENT]);
            numbers.add(row[RELATION]);
        }
        for (int[] row : features) {
            numbers.add(row[COST]);
            numbers.add(row[VALUE]);
            numbers.add(row[DECISION]);
        }
        numbers.add(constraints.size());
        for (int[] row : constraints) {
            for (int number : row) {
                numbers.add(number);
            }
        }
        numbers.add(budget);
        numbers.add(productCount());
        numbers.add(candidateCount());
        numbers.addAll(candidates());
        long d = 139;
        for (int x : numbers) {
            d = d * 31 + x;
        }
        return d;
    }
}

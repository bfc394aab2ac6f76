/** Product lines that several tests use. */
final class Lines {
    static final int MUST = 0;
    static final int MAY = 1;
    static final int ONE = 2;
    static final int SOME = 3;
    static final int REQUIRE = 0;
    static final int EXCLUDE = 1;
    static final int OPEN = 0;
    static final int IN = 1;
    static final int OUT = 2;

    private Lines() {
    }

    /** The feature 0 with as many children, all of one relation. */
    static FeatureAnalyzer flat(int children, int relation) {
        FeatureAnalyzer x = new FeatureAnalyzer();
        for (int i = 0; i < children; i++) {
            x.addFeature(0, relation);
        }
        return x;
    }

    /** Each feature is the child of the one before it. */
    static FeatureAnalyzer chain(int features, int relation) {
        FeatureAnalyzer x = new FeatureAnalyzer();
        for (int i = 1; i < features; i++) {
            x.addFeature(i - 1, relation);
        }
        return x;
    }

    /** 0: MUST 1, MAY 2, ONE 3 and 4; 2: SOME 5 and 6. It has eight products. */
    static FeatureAnalyzer phone() {
        FeatureAnalyzer x = new FeatureAnalyzer();
        x.addFeature(0, MUST);
        x.addFeature(0, MAY);
        x.addFeature(0, ONE);
        x.addFeature(0, ONE);
        x.addFeature(2, SOME);
        x.addFeature(2, SOME);
        return x;
    }

    static int set(int... features) {
        int set = 0;
        for (int f : features) {
            set |= 1 << f;
        }
        return set;
    }
}

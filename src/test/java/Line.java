import java.util.ArrayList;
import java.util.List;
import java.util.function.Consumer;

/** Lines that are made anew as often as a test wants them: each object has but 512 calls. */
enum Line {
    /** The feature 0 alone. */
    ALONE,
    /** Some of everything; 7 products, the candidates 19 and 87. */
    BUSY,
    /** As many features and constraints as there can be. */
    FULL;

    private final List<Consumer<FeatureAnalyzer>> steps = new ArrayList<>();
    private int features = 1;
    private int constraints = 0;
    private int budget = -1;

    static {
        BUSY.feature(0, Lines.MUST).feature(0, Lines.MAY).feature(0, Lines.ONE).feature(0, Lines.ONE)
                .feature(2, Lines.SOME).feature(2, Lines.SOME);
        BUSY.constraint(Lines.REQUIRE, 3, 2).constraint(Lines.EXCLUDE, 4, 6).off(1)
                .constraint(Lines.REQUIRE, 2, 0);
        BUSY.worth(1, 3, 4).worth(2, 10, 5).worth(3, 7, 9).worth(4, 2, 1).worth(5, 5, 5)
                .worth(6, 6, 8);
        BUSY.decision(1, Lines.IN).decision(5, Lines.OUT).limit(25);

        FULL.feature(0, Lines.MUST).feature(0, Lines.MAY).feature(0, Lines.ONE).feature(0, Lines.ONE)
                .feature(2, Lines.SOME).feature(2, Lines.SOME).feature(4, Lines.MAY)
                .feature(7, Lines.MUST).feature(1, Lines.MAY).feature(9, Lines.MAY)
                .feature(10, Lines.MAY);
        FULL.constraint(Lines.REQUIRE, 11, 2).constraint(Lines.EXCLUDE, 3, 6)
                .constraint(Lines.REQUIRE, 5, 5).constraint(Lines.EXCLUDE, 8, 11).off(3)
                .constraint(Lines.REQUIRE, 9, 1).constraint(Lines.EXCLUDE, 3, 7)
                .constraint(Lines.REQUIRE, 0, 1).constraint(Lines.EXCLUDE, 10, 7).off(7)
                .constraint(Lines.EXCLUDE, 2, 7).constraint(Lines.REQUIRE, 2, 0);
        FULL.worth(0, 1000, 1000).worth(1, 3, 4).worth(2, 10, 5).worth(6, 6, 8).worth(9, 0, 7)
                .worth(10, 4, 0).worth(11, 900, 1);
        FULL.decision(1, Lines.IN).decision(8, Lines.OUT).limit(1030);
    }

    private Line feature(int parent, int relation) {
        features++;
        return step(x -> x.addFeature(parent, relation));
    }

    private Line constraint(int kind, int a, int b) {
        constraints++;
        return step(x -> x.addConstraint(kind, a, b));
    }

    private Line off(int constraint) {
        return step(x -> x.turn(constraint, false));
    }

    private Line worth(int feature, int cost, int value) {
        return step(x -> x.setWorth(feature, cost, value));
    }

    private Line decision(int feature, int decision) {
        return step(x -> x.decide(feature, decision));
    }

    private Line limit(int cost) {
        budget = cost;
        return step(x -> x.setBudget(cost));
    }

    private Line step(Consumer<FeatureAnalyzer> step) {
        steps.add(step);
        return this;
    }

    FeatureAnalyzer make() {
        FeatureAnalyzer x = new FeatureAnalyzer();
        for (Consumer<FeatureAnalyzer> step : steps) {
            step.accept(x);
        }
        return x;
    }

    int features() {
        return features;
    }

    int constraints() {
        return constraints;
    }

    int budget() {
        return budget;
    }

    /** How many calls make makes. */
    int calls() {
        return steps.size();
    }
}

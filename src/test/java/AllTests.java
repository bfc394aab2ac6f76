/** Runs all tests of the project; the last line is their count. */
public final class AllTests {
    private AllTests() {
    }

    public static void main(String[] args) {
        Suite suite = new Suite();
        BuildingTests.addTo(suite);
        DecisionTests.addTo(suite);
        ProductTests.addTo(suite);
        CandidateTests.addTo(suite);
        PairTests.addTo(suite);
        DescriptionEdges.addTo(suite);
        BuildingEdges.addTo(suite);
        DecisionEdges.addTo(suite);
        ProductEdges.addTo(suite);
        CandidateEdges.addTo(suite);
        PairEdges.addTo(suite);
        CallLimitTests.addTo(suite);
        FaceTests.addTo(suite);
        FormTests.addTo(suite);
        TreeTests.addTo(suite);
        ReadmeTests.addTo(suite);
        RandomTests.addTo(suite);
        CiRunTests.addTo(suite);
        for (String failure : suite.failures()) {
            System.out.println("FAILED " + failure);
        }
        System.out.println(suite.passed() + " passed, " + suite.failures().size() + " failed");
        if (!suite.failures().isEmpty()) {
            System.exit(1);
        }
    }
}

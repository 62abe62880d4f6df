/** Runs all tests of the project, told where the class and README.md stand; exit code 1 if a check failed. */
public final class AllTests {
    private AllTests() { }

    public static void main(String[] args) throws Exception {
        CrewsTests.run();
        RacesTests.run();
        ForetellingTests.run();
        ChartTests.run();
        TextsTests.run();
        ChangesTests.run();
        CrewsEdgesTests.run();
        RacesEdgesTests.run();
        ForetellingEdgesTests.run();
        ChartEdgesTests.run();
        TextsEdgesTests.run();
        ChangesEdgesTests.run();
        FaceTests.run(args[0]);
        ReadmeTests.run(args[1]);
        ModelTests.run();
        System.out.println("the project's checks: " + Check.passed() + " passed, " + Check.failed() + " failed; "
            + Check.sentences() + " sentences of the document have a test of their own");
        if (Check.failed() != 0) {
            System.exit(1);
        }
    }
}

/** Runs all tests of the project; ends with exit code 1 if a check failed. */
public final class AllTests {
    private AllTests() { }

    public static void main(String[] args) throws Exception {
        CrewsTests.run();
        RacesTests.run();
        ForetellingTests.run();
        ChartTests.run();
        TextsTests.run();
        ChangesTests.run();
        FaceTests.run(args[0]);
        ModelTests.run();
        System.out.println("the project's checks: " + Check.passed() + " passed, " + Check.failed() + " failed");
        if (Check.failed() != 0) {
            System.exit(1);
        }
    }
}

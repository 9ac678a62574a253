/** Runs all tests of the project; ends with exit code 1 if one fails. */
final class AllTests {
    private AllTests() {
    }

    public static void main(String[] args) throws Exception {
        FaceTest.run();
        LanguageTest.run();
        SetupTest.run();
        TicketsTest.run();
        PeopleTest.run();
        TimeTest.run();
        ConsistencyTest.run();
        RandomRunsTest.run();
        if (!Check.report()) {
            System.exit(1);
        }
    }
}

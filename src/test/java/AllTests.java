/** Runs all tests of the project; ends with exit code 1 if one fails. */
final class AllTests {
    private AllTests() {
    }

    public static void main(String[] args) throws Exception {
        FaceTest.run();
        LanguageTest.run();
        SetupTest.run();
        TicketsTest.run();
        PeopleTest.run();
        TimeTest.run();
        ConsistencyTest.run();
        runSentences();
        RandomRunsTest.run();
        if (!Check.report()) {
            System.exit(1);
        }
    }

    private static void runSentences() throws Exception {
        Document.read();
        Sentences.run(TermsSentencesTest.class);
        Sentences.run(RefusedCallsTest.class);
        Sentences.run(SetupSentencesTest.class);
        Sentences.run(TicketSentencesTest.class);
        Sentences.run(PeopleSentencesTest.class);
        Sentences.run(TimeSentencesTest.class);
        Document.checkAllQuoted();
    }
}

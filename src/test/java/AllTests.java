/** Runs all tests of the project; ends with exit code 1 if one fails. */
final class AllTests {
    private static final int MOST_MILLISECONDS = 300_000;

    private AllTests() {
    }

    public static void main(String[] args) throws Exception {
        failIfEndless();
        FaceTest.run();
        LanguageTest.run();
        ReadmeTest.run();
        SetupTest.run();
        TicketsTest.run();
        PeopleTest.run();
        TimeTest.run();
        ConsistencyTest.run();
        runSentences();
        RandomRunsTest.run();
        if (!Check.report()) {
            System.exit(1);
        }
    }

    /** A call that never ends must fail the tests too. */
    private static void failIfEndless() {
        Thread watch = new Thread(() -> {
            try {
                Thread.sleep(MOST_MILLISECONDS);
            } catch (InterruptedException e) {
                return;
            }
            System.out.println("the tests have not ended after " + MOST_MILLISECONDS + " ms");
            Runtime.getRuntime().halt(1);
        });
        watch.setDaemon(true);
        watch.start();
    }

    private static void runSentences() throws Exception {
        Document.read();
        Sentences.run(TermsSentencesTest.class);
        Sentences.run(RefusedCallsTest.class);
        Sentences.run(SetupSentencesTest.class);
        Sentences.run(TicketSentencesTest.class);
        Sentences.run(PeopleSentencesTest.class);
        Sentences.run(TimeSentencesTest.class);
        Document.checkAllQuoted();
    }
}

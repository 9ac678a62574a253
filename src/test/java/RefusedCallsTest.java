import java.util.ArrayList;
import java.util.List;
import java.util.NoSuchElementException;

/** What the document's 'Terms' say of all calls that throw. */
final class RefusedCallsTest {
    private static final Class<IllegalArgumentException> ARGUMENT = IllegalArgumentException.class;
    private static final Class<IllegalStateException> STATE = IllegalStateException.class;
    private static final Class<IndexOutOfBoundsException> INDEX = IndexOutOfBoundsException.class;
    private static final Class<NoSuchElementException> NONE = NoSuchElementException.class;
    private static final Class<UnsupportedOperationException> UNABLE =
            UnsupportedOperationException.class;
    private static final Class<ArithmeticException> ARITHMETIC = ArithmeticException.class;
    private static final String FORTY = "a".repeat(40);

    private RefusedCallsTest() {
    }

    interface DeskCall {
        Object on(DeskExchange x);
    }

    interface Making {
        DeskExchange desk();
    }

    // ---- desks

    /**
     * Desk.inAllStates() at the time 2, and besides: the cause 1, "key", whose part is lacking on
     * the open ticket 7, the idle person 1 without skills, a line about the ticket 6, and "ab" in
     * the text buffer.
     */
    private static DeskExchange busy() {
        DeskExchange x = busyWithEmptyBuffer();
        Desk.type(x, "ab");
        return x;
    }

    private static DeskExchange busyWithEmptyBuffer() {
        DeskExchange x = Desk.inAllStates();
        Desk.cause(x, 5, 4, "key");
        x.addPerson(0, 0, 1440);
        x.addPerson(2, 0, 1440);
        Desk.open(x, 0, "key abq");
        x.addStock(0, 1);
        x.writeLine(6);
        return x;
    }

    /** A desk to which nothing can be added but pages and stock, with 40 characters typed. */
    private static DeskExchange full() {
        DeskExchange x = fullWithEmptyBuffer();
        Desk.type(x, FORTY);
        return x;
    }

    private static DeskExchange fullWithEmptyBuffer() {
        DeskExchange x = new DeskExchange();
        for (int i = 0; i < 8; i++) {
            x.addCause(1, -1);
        }
        for (int i = 0; i < 6; i++) {
            x.addPerson(255, 0, 1440);
            x.planChange(7, 0, 9, true);
        }
        for (int i = 0; i < 5; i++) {
            x.addCustomer(9);
        }
        for (int i = 0; i < 3; i++) {
            Desk.keyword(x, 0, "b".repeat(i + 1));
        }
        for (int i = 0; i < 40; i++) {
            Desk.open(x, 0, "a");
        }
        return x;
    }

    // ---- a call that throws changes nothing

    @Says("Terms: A method that throws an exception changes nothing,")
    static void setupThatThrowsChangesNothing() {
        changesNothing(ARGUMENT, RefusedCallsTest::busy, x -> x.type('A'));
        changesNothing(ARGUMENT, RefusedCallsTest::busy, x -> x.addCustomer(5001));
        changesNothing(ARGUMENT, RefusedCallsTest::busy, x -> x.addCause(601, 0));
        changesNothing(ARGUMENT, RefusedCallsTest::busy, x -> x.addCause(1, 5));
        changesNothing(INDEX, RefusedCallsTest::busy, x -> x.addPage(2));
        changesNothing(STATE, RefusedCallsTest::busy, x -> x.addPage(0));
        changesNothing(ARGUMENT, RefusedCallsTest::busy, x -> x.addPerson(256, 0, 1));
        changesNothing(ARGUMENT, RefusedCallsTest::busy, x -> x.addPerson(1, 5, 5));
        changesNothing(INDEX, RefusedCallsTest::busy, x -> x.addStock(5, 1));
        changesNothing(ARGUMENT, RefusedCallsTest::busy, x -> x.addStock(4, 51));
        changesNothing(INDEX, RefusedCallsTest::busy, x -> x.planChange(2, 2, 3, true));
        changesNothing(ARGUMENT, RefusedCallsTest::busy, x -> x.planChange(0, 1, 3, true));
        changesNothing(ARGUMENT, RefusedCallsTest::busy, x -> x.planChange(0, 2, 2, true));
        changesNothing(INDEX, RefusedCallsTest::busy, x -> x.failChange(1));
    }

    @Says("Terms: A method that throws an exception changes nothing,")
    static void secondFailureChangesNothing() {
        changesNothing(STATE, RefusedCallsTest::busyWithFailedChange, x -> x.failChange(0));
        changesNothing(STATE, RefusedCallsTest::busyAt9, x -> x.failChange(0));
    }

    private static DeskExchange busyWithFailedChange() {
        DeskExchange x = busy();
        x.failChange(0);
        return x;
    }

    private static DeskExchange busyAt9() {
        DeskExchange x = busy();
        x.pass(7);
        return x;
    }

    @Says("Terms: A method that throws an exception changes nothing,")
    static void ticketCallsThatThrowChangeNothing() {
        changesNothing(INDEX, RefusedCallsTest::busy, x -> x.join(7, 8));
        changesNothing(INDEX, RefusedCallsTest::busy, x -> x.join(8, 7));
        changesNothing(ARGUMENT, RefusedCallsTest::busy, x -> x.join(7, 7));
        changesNothing(STATE, RefusedCallsTest::busy, x -> x.join(2, 7));
        changesNothing(STATE, RefusedCallsTest::busy, x -> x.join(7, 6));
        changesNothing(STATE, RefusedCallsTest::busy, x -> x.join(7, 0));
        changesNothing(STATE, RefusedCallsTest::busy, x -> x.join(3, 7));
        changesNothing(STATE, RefusedCallsTest::busy, x -> x.join(4, 7));
        changesNothing(STATE, RefusedCallsTest::busy, x -> x.join(5, 7));
        changesNothing(INDEX, RefusedCallsTest::busy, x -> x.confirm(8, false));
        changesNothing(STATE, RefusedCallsTest::busy, x -> x.confirm(0, false));
        changesNothing(STATE, RefusedCallsTest::busy, x -> x.confirm(5, true));
        changesNothing(STATE, RefusedCallsTest::busy, x -> x.confirm(7, false));
        changesNothing(INDEX, RefusedCallsTest::busy, x -> x.assign(8, 1));
        changesNothing(INDEX, RefusedCallsTest::busy, x -> x.assign(7, 3));
        changesNothing(STATE, RefusedCallsTest::busy, x -> x.assign(7, 0));
        changesNothing(STATE, RefusedCallsTest::busy, x -> x.assign(3, 1));
        changesNothing(STATE, RefusedCallsTest::busy, x -> x.assign(4, 2));
        changesNothing(UNABLE, RefusedCallsTest::busy, x -> x.assign(7, 1));
        changesNothing(UNABLE, RefusedCallsTest::busy, x -> x.assign(7, 2));
        changesNothing(INDEX, RefusedCallsTest::busy, x -> x.letGo(3));
        changesNothing(STATE, RefusedCallsTest::busy, x -> x.letGo(1));
    }

    @Says("Terms: A method that throws an exception changes nothing,")
    static void lackingSkillReservesNoPart() {
        changesNothing(UNABLE, RefusedCallsTest::busyWithStock, x -> x.assign(7, 1));
    }

    private static DeskExchange busyWithStock() {
        DeskExchange x = busy();
        x.addStock(4, 1);
        return x;
    }

    @Says("Terms: A method that throws an exception changes nothing,")
    static void questionsThatThrowChangeNothing() {
        changesNothing(INDEX, RefusedCallsTest::busy, x -> x.state(8));
        changesNothing(INDEX, RefusedCallsTest::busy, x -> x.cause(8));
        changesNothing(NONE, RefusedCallsTest::busy, x -> x.cause(2));
        changesNothing(INDEX, RefusedCallsTest::busy, x -> x.causeFromLog(8));
        changesNothing(NONE, RefusedCallsTest::busy, x -> x.causeFromLog(2));
        changesNothing(INDEX, RefusedCallsTest::busy, x -> x.likeness(0, 8));
        changesNothing(INDEX, RefusedCallsTest::busy, x -> x.mostLike(8));
        changesNothing(NONE, RefusedCallsTest::busy, x -> x.mostLike(7));
        changesNothing(INDEX, RefusedCallsTest::busy, x -> x.parentOf(8));
        changesNothing(NONE, RefusedCallsTest::busy, x -> x.parentOf(2));
        changesNothing(INDEX, RefusedCallsTest::busy, x -> x.solvedBy(8));
        changesNothing(NONE, RefusedCallsTest::busy, x -> x.solvedBy(2));
        changesNothing(INDEX, RefusedCallsTest::busy, x -> x.workOf(3));
        changesNothing(NONE, RefusedCallsTest::busy, x -> x.workOf(1));
        changesNothing(INDEX, RefusedCallsTest::busy, x -> x.minutesLeft(3));
        changesNothing(NONE, RefusedCallsTest::busy, x -> x.minutesLeft(1));
        changesNothing(INDEX, RefusedCallsTest::busy, x -> x.isOnShift(3));
        changesNothing(INDEX, RefusedCallsTest::busy, x -> x.free(5));
        changesNothing(INDEX, RefusedCallsTest::busy, x -> x.reserved(5));
        changesNothing(INDEX, RefusedCallsTest::busy, x -> x.trust(1));
        changesNothing(ARGUMENT, RefusedCallsTest::busy, x -> x.pass(1001));
        changesNothing(INDEX, RefusedCallsTest::busy, x -> x.clock(8));
        changesNothing(INDEX, RefusedCallsTest::busy, x -> x.clockFromLog(8));
        changesNothing(INDEX, RefusedCallsTest::busy, x -> x.isBroken(8));
        changesNothing(INDEX, RefusedCallsTest::busy, x -> x.writeLine(8));
        changesNothing(INDEX, RefusedCallsTest::busy, x -> x.lineAt(21));
    }

    @Says("Terms: A method that throws an exception changes nothing,")
    static void callsOnOtherDesksThatThrowChangeNothing() {
        changesNothing(ARITHMETIC, DeskExchange::new, x -> x.meanClock());
        changesNothing(ARITHMETIC, DeskExchange::new, x -> x.brokenShare());
        changesNothing(NONE, DeskExchange::new, x -> x.nextTicket());
        changesNothing(STATE, RefusedCallsTest::full, x -> x.type('b'));
        changesNothing(STATE, RefusedCallsTest::full, x -> x.addCustomer(1));
        changesNothing(STATE, RefusedCallsTest::full, x -> x.addCause(1, -1));
        changesNothing(STATE, RefusedCallsTest::full, x -> x.addPerson(1, 0, 1));
        changesNothing(STATE, RefusedCallsTest::full, x -> x.planChange(0, 0, 1, false));
        changesNothing(STATE, RefusedCallsTest::busyAt19990, x -> x.pass(11));
    }

    private static DeskExchange busyAt19990() {
        DeskExchange x = busy();
        Desk.passUntil(x, 19990);
        return x;
    }

    @Says("Terms: except that addKeyword and open empty the text buffer.")
    static void addKeywordAndOpenEmptyTheBuffer() {
        emptiesTheBuffer(INDEX, RefusedCallsTest::busyWithEmptyBuffer, "ab", x -> x.addKeyword(2));
        emptiesTheBuffer(ARGUMENT, RefusedCallsTest::busyWithEmptyBuffer, "", x -> x.addKeyword(1));
        emptiesTheBuffer(ARGUMENT, RefusedCallsTest::busyWithEmptyBuffer, "  ", x -> x.addKeyword(1));
        emptiesTheBuffer(ARGUMENT, RefusedCallsTest::busyWithEmptyBuffer, "a b", x -> x.addKeyword(1));
        emptiesTheBuffer(ARGUMENT, RefusedCallsTest::busyWithEmptyBuffer, "key", x -> x.addKeyword(1));
        emptiesTheBuffer(STATE, RefusedCallsTest::fullWithEmptyBuffer, FORTY, x -> x.addKeyword(0));
        emptiesTheBuffer(INDEX, RefusedCallsTest::busyWithEmptyBuffer, "ab", x -> x.open(1));
        emptiesTheBuffer(ARGUMENT, RefusedCallsTest::busyWithEmptyBuffer, "", x -> x.open(0));
        emptiesTheBuffer(ARGUMENT, RefusedCallsTest::busyWithEmptyBuffer, "  ", x -> x.open(0));
        emptiesTheBuffer(STATE, RefusedCallsTest::fullWithEmptyBuffer, FORTY, x -> x.open(0));
    }

    private static void changesNothing(Class<? extends RuntimeException> due, Making making,
            DeskCall call) {
        DeskExchange x = making.desk();
        Check.throwsJust("the call", due, () -> call.on(x));
        Check.equal("all answers after it", answers(x), answers(making.desk()));
    }

    private static void emptiesTheBuffer(Class<? extends RuntimeException> due, Making making,
            String content, DeskCall call) {
        DeskExchange x = making.desk();
        Desk.type(x, content);
        Check.throwsJust("the call with \"" + content + "\"", due, () -> call.on(x));
        Check.equal("all answers after it", answers(x), answers(making.desk()));
    }

    // ---- all that a desk tells, with fewer than 300 calls

    private static List<Object> answers(DeskExchange x) {
        List<Object> answers = new ArrayList<>();
        addQuestions(answers, x);
        DeskCall[] deeds = {y -> y.type('q'), y -> y.open(0), y -> y.likeness(7, 8),
            y -> y.addCustomer(3), y -> y.addCause(1, 4), y -> y.addPage(1), y -> y.addStock(4, 2),
            y -> Desk.keyword(y, 1, "fan"), y -> y.planChange(1, y.now(), y.now() + 3, false),
            y -> Desk.open(y, 0, "else more"), y -> y.assign(2, 1), y -> y.assign(7, 2),
            y -> y.pass(4), y -> y.letGo(1), y -> y.confirm(4, true), y -> y.join(8, 7),
            y -> y.addPerson(255, 0, 1440), y -> y.pass(6)};
        for (DeskCall deed : deeds) {
            answers.add(Check.answerOf(() -> deed.on(x)));
        }
        addQuestions(answers, x);
        return answers;
    }

    private static void addQuestions(List<Object> answers, DeskExchange x) {
        for (int i = 0; i < 11; i++) {
            int ticket = i;
            answers.add(Check.answerOf(() -> x.state(ticket)));
            answers.add(Check.answerOf(() -> x.cause(ticket)));
            answers.add(Check.answerOf(() -> x.causeFromLog(ticket)));
            answers.add(Check.answerOf(() -> x.parentOf(ticket)));
            answers.add(Check.answerOf(() -> x.solvedBy(ticket)));
            answers.add(Check.answerOf(() -> x.clock(ticket)));
            answers.add(Check.answerOf(() -> x.clockFromLog(ticket)));
        }
        for (int i = 0; i < 5; i++) {
            int number = i;
            answers.add(Check.answerOf(() -> x.workOf(number)));
            answers.add(Check.answerOf(() -> x.minutesLeft(number)));
            answers.add(Check.answerOf(() -> x.trust(number)));
            answers.add(Check.answerOf(() -> x.free(number)));
            answers.add(Check.answerOf(() -> x.reserved(number)));
        }
        answers.add(Check.answerOf(() -> x.lineAt(7)));
        answers.add(Check.answerOf(() -> x.lineAt(20)));
        answers.add(Check.answerOf(() -> x.nextTicket()));
        answers.add(Check.answerOf(() -> x.meanClock()));
        answers.add(Check.answerOf(() -> x.brokenShare()));
        answers.add(x.now());
        answers.add(x.isConsistent());
    }

    // ---- the first of several conditions

    private static void first(Class<? extends RuntimeException> due, DeskExchange x, DeskCall call) {
        Check.throwsJust("the call", due, () -> call.on(x));
    }

    @Says("Terms: If several conditions for an exception hold, the exception that is listed first is"
        + " thrown.")
    static void firstOfSetup() {
        first(ARGUMENT, full(), x -> x.type('A'));
        first(ARGUMENT, full(), x -> x.addCustomer(0));
        first(ARGUMENT, full(), x -> x.addCause(0, 0));
        first(ARGUMENT, full(), x -> x.addCause(1, -2));
        first(ARGUMENT, full(), x -> x.addPerson(-1, 0, 1));
        first(ARGUMENT, full(), x -> x.addPerson(0, -1, 1));
        first(ARGUMENT, full(), x -> x.addPerson(0, 1, 1));
        first(INDEX, full(), x -> x.addStock(5, 0));
        first(INDEX, full(), x -> x.addStock(-1, 51));
        first(INDEX, full(), x -> x.planChange(8, 0, 1, true));
        first(INDEX, full(), x -> x.planChange(8, -1, 1, true));
        first(INDEX, busy(), x -> x.planChange(2, 1, 3, true));
        first(ARGUMENT, full(), x -> x.planChange(0, -1, 1, true));
        first(ARGUMENT, full(), x -> x.planChange(0, 1, 1, true));
        first(ARGUMENT, full(), x -> x.planChange(0, 1, 20001, true));
    }

    @Says("Terms: If several conditions for an exception hold, the exception that is listed first is"
        + " thrown.")
    static void firstOfAddKeyword() {
        first(INDEX, fullWithEmptyBuffer(), x -> x.addKeyword(8));
        first(INDEX, fullWithEmptyBuffer(), x -> Desk.keyword(x, 8, "a b"));
        first(ARGUMENT, fullWithEmptyBuffer(), x -> x.addKeyword(0));
        first(ARGUMENT, fullWithEmptyBuffer(), x -> Desk.keyword(x, 0, "c d"));
        first(ARGUMENT, fullWithEmptyBuffer(), x -> Desk.keyword(x, 0, "b"));
        first(ARGUMENT, fullWithEmptyBuffer(), x -> Desk.keyword(x, 0, "bbb"));
    }

    @Says("Terms: If several conditions for an exception hold, the exception that is listed first is"
        + " thrown.")
    static void firstOfOpen() {
        first(INDEX, fullWithEmptyBuffer(), x -> x.open(5));
        first(INDEX, full(), x -> x.open(5));
        first(INDEX, busyWithEmptyBuffer(), x -> x.open(1));
        first(ARGUMENT, fullWithEmptyBuffer(), x -> x.open(0));
        first(ARGUMENT, fullWithEmptyBuffer(), x -> Desk.open(x, 0, "  "));
    }

    @Says("Terms: If several conditions for an exception hold, the exception that is listed first is"
        + " thrown.")
    static void firstOfTicketCalls() {
        first(INDEX, busy(), x -> x.join(8, 8));
        first(INDEX, busy(), x -> x.join(-1, -1));
        first(INDEX, busy(), x -> x.join(3, 8));
        first(INDEX, busy(), x -> x.join(8, 6));
        first(ARGUMENT, busy(), x -> x.join(3, 3));
        first(ARGUMENT, busy(), x -> x.join(2, 2));
        first(ARGUMENT, busy(), x -> x.join(0, 0));
        first(INDEX, busy(), x -> x.assign(3, 3));
        first(INDEX, busy(), x -> x.assign(8, 0));
        first(INDEX, busy(), x -> x.assign(7, -1));
        first(STATE, busy(), x -> x.assign(4, 1));
        first(STATE, busy(), x -> x.assign(3, 0));
        first(STATE, busy(), x -> x.assign(7, 0));
        first(STATE, busyWithStock(), x -> x.assign(5, 1));
    }

    @Says("Terms: If several conditions for an exception hold, the exception that is listed first is"
        + " thrown.")
    static void firstOfPass() {
        first(ARGUMENT, busyAt19990(), x -> x.pass(1001));
        first(ARGUMENT, busyAt19990(), x -> x.pass(Integer.MAX_VALUE));
        first(STATE, busyAt19990(), x -> x.pass(1000));
    }
}

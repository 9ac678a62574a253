import java.util.NoSuchElementException;

/** The sentences of the promises 24 to 29, each where its boundary lies. */
final class PeopleSentencesTest {
    private static final Class<IndexOutOfBoundsException> INDEX = IndexOutOfBoundsException.class;
    private static final Class<NoSuchElementException> NONE = NoSuchElementException.class;
    private static final int LEAST = Integer.MIN_VALUE;
    private static final int MOST = Integer.MAX_VALUE;
    private static final int[] NEVER = {0, -1, 1, 5, 6, LEAST, MOST};
    private static final int[] NOT_OF_TWO = {-1, 2, 3, 5, 6, LEAST, MOST};
    private static final int[] NO_KINDS = {-1, 5, 6, LEAST, MOST};

    private PeopleSentencesTest() {
    }

    /** A desk with the people 0 and 1; 1 works on the ticket 2 from the minute 3 of the day on. */
    private static DeskExchange working() {
        DeskExchange x = Desk.promising(9);
        Desk.cause(x, 3, -1, "fan");
        x.addPerson(1, 0, 1440);
        x.addPerson(1, 3, 5);
        Desk.openEach(x, "else", "else", "fan");
        x.assign(2, 1);
        return x;
    }

    // ---- promise 24

    @Says({"24: Returns the ticket on which a person works.", "24: Returns the ticket."})
    static void workIsATicket() {
        DeskExchange x = working();
        Check.equal("also out of the shift", x.workOf(1), 2);
        x.assign(0, 0);
        Check.equal("the first ticket", x.workOf(0), 0);
        x.letGo(0);
        x.join(1, 0);
        x.assign(0, 0);
        Check.equal("not the joined one", x.workOf(0), 0);
    }

    @Says("24: Throws `IndexOutOfBoundsException` if there is no such person")
    static void workOfNoPerson() {
        DeskExchange empty = new DeskExchange();
        Check.eachThrows("without people", INDEX, NEVER, empty::workOf);
        Check.eachThrows("with two", INDEX, NOT_OF_TWO, working()::workOf);
    }

    @Says("24: Throws `NoSuchElementException` if the person works on none")
    static void worksOnNone() {
        DeskExchange x = working();
        Check.throwsJust("never worked", NONE, () -> x.workOf(0));
        Desk.passUntil(x, 1443);
        Check.equal("in the last minute", x.workOf(1), 2);
        x.pass(1);
        Check.throwsJust("is done", NONE, () -> x.workOf(1));
        x.assign(0, 1);
        x.letGo(1);
        Check.throwsJust("is let go", NONE, () -> x.workOf(1));
    }

    // ---- promise 25

    @Says({"25: Returns how many more minutes of the shift the work of a person takes.",
        "25: Returns the number of minutes."})
    static void minutesLeftFromWorkTo1() {
        DeskExchange x = working();
        int[] times = {0, 3, 4, 5, 1442, 1443};
        int[] left = {3, 3, 2, 1, 1, 1};
        for (int i = 0; i < times.length; i++) {
            Desk.passUntil(x, times[i]);
            Check.equal("at " + times[i], x.minutesLeft(1), left[i]);
        }
        Check.equal("the last one", x.pass(1), 1);
    }

    @Says("25: Returns how many more minutes of the shift the work of a person takes.")
    static void minutesLeftOf600() {
        DeskExchange x = Desk.promising(9);
        Desk.cause(x, 600, -1, "fan");
        Desk.cause(x, 1, -1, "key");
        x.addPerson(3, 0, 1440);
        x.addPerson(3, 0, 1440);
        x.addPerson(0, 0, 1440);
        Desk.openEach(x, "fan", "key", "else");
        for (int i = 0; i < 3; i++) {
            x.assign(i, i);
        }
        int[] due = {600, 1, 30};
        for (int i = 0; i < due.length; i++) {
            Check.equal("the whole work", x.minutesLeft(i), due[i]);
        }
    }

    @Says("25: Throws `IndexOutOfBoundsException` if there is no such person")
    static void minutesLeftOfNoPerson() {
        DeskExchange empty = new DeskExchange();
        Check.eachThrows("without people", INDEX, NEVER, empty::minutesLeft);
        Check.eachThrows("with two", INDEX, NOT_OF_TWO, working()::minutesLeft);
    }

    @Says("25: Throws `NoSuchElementException` if the person works on no ticket")
    static void minutesLeftOfNoWork() {
        DeskExchange x = working();
        Check.throwsJust("never worked", NONE, () -> x.minutesLeft(0));
        Desk.passUntil(x, 1444);
        Check.throwsJust("is done", NONE, () -> x.minutesLeft(1));
        x.assign(0, 1);
        x.letGo(1);
        Check.throwsJust("is let go", NONE, () -> x.minutesLeft(1));
    }

    // ---- promise 26

    @Says({"26: Returns whether a person has a shift in the next minute.", "26: Returns true if so."})
    static void shiftInTheNextMinute() {
        DeskExchange x = new DeskExchange();
        x.addPerson(0, 3, 5);
        x.addPerson(0, 0, 1440);
        x.addPerson(0, 1280, 1281);
        int[] times = {0, 2, 3, 4, 5, 1439, 1440, 1442, 1443, 1444, 1445, 19999, 20000};
        boolean[] due = {false, false, true, true, false, false, false, false, true, true, false,
            false, false};
        for (int i = 0; i < times.length; i++) {
            Desk.passUntil(x, times[i]);
            Check.equal("at " + times[i], x.isOnShift(0), due[i]);
            Check.equal("all day at " + times[i], x.isOnShift(1), true);
            Check.equal("the minute 1280 at " + times[i], x.isOnShift(2), times[i] == 20000);
        }
    }

    @Says("26: Throws `IndexOutOfBoundsException` if there is no such person")
    static void shiftOfNoPerson() {
        DeskExchange empty = new DeskExchange();
        Check.eachThrows("without people", INDEX, NEVER, empty::isOnShift);
        Check.eachThrows("with two", INDEX, NOT_OF_TWO, working()::isOnShift);
    }

    // ---- promises 27 and 28

    @Says({"27: Returns how many parts of a kind are free.", "27: Returns the number of parts.",
        "28: Returns how many parts of a kind are reserved.", "28: Returns the number of parts."})
    static void freeAndReservedFromNoneToAll() {
        DeskExchange x = Desk.promising(9);
        x.addPerson(255, 0, 1440);
        for (int kind = 0; kind < 5; kind++) {
            String word = String.valueOf((char) ('a' + kind));
            Desk.cause(x, 1, kind, word);
            Desk.open(x, 0, word);
            Check.equal("none at all", x.free(kind) * 10 + x.reserved(kind), 0);
            x.addStock(kind, 2);
            Check.equal("all are free", x.free(kind) * 10 + x.reserved(kind), 20);
            Desk.open(x, 0, word);
            Check.equal("one of each", x.free(kind) * 10 + x.reserved(kind), 11);
            Desk.open(x, 0, word);
            Check.equal("all are reserved", x.free(kind) * 10 + x.reserved(kind), 2);
            x.assign(3 * kind + 1, 0);
            x.pass(1);
            Check.equal("one is used up", x.free(kind) * 10 + x.reserved(kind), 1);
            x.assign(3 * kind + 2, 0);
            x.pass(1);
            Check.equal("both are used up", x.free(kind) * 10 + x.reserved(kind), 0);
        }
    }

    @Says("27: Throws `IndexOutOfBoundsException` if there is no such kind")
    static void freeOfNoKind() {
        DeskExchange x = new DeskExchange();
        Check.eachThrows("free", INDEX, NO_KINDS, x::free);
        Check.equal("the last kind", x.free(4), 0);
    }

    @Says("28: Throws `IndexOutOfBoundsException` if there is no such kind")
    static void reservedOfNoKind() {
        DeskExchange x = new DeskExchange();
        Check.eachThrows("reserved", INDEX, NO_KINDS, x::reserved);
        Check.equal("the last kind", x.reserved(4), 0);
    }

    // ---- promise 29

    @Says({"29: Returns the trust of a page.", "29: Returns the trust."})
    static void trustOfEachPage() {
        DeskExchange x = Desk.promising(9);
        x.addPerson(255, 0, 1440);
        for (int i = 0; i < 8; i++) {
            String word = String.valueOf((char) ('a' + i));
            Desk.cause(x, 1, -1, word);
            Desk.open(x, 0, word);
        }
        for (int i = 0; i < 8; i++) {
            x.addPage(7 - i);
        }
        x.assign(2, 0);
        x.pass(1);
        for (int i = 0; i < 8; i++) {
            Check.equal("the page " + i, x.trust(i), i == 5 ? 60 : 50);
        }
    }

    @Says("29: Throws `IndexOutOfBoundsException` if there is no such page")
    static void trustOfNoPage() {
        DeskExchange x = new DeskExchange();
        x.addCause(1, -1);
        x.addCause(1, -1);
        x.addCause(1, -1);
        Check.eachThrows("without pages", INDEX, NEVER, x::trust);
        x.addPage(2);
        x.addPage(0);
        Check.eachThrows("with two", INDEX, NOT_OF_TWO, x::trust);
        Check.equal("the last", x.trust(1), 50);
    }
}

/** The sentences of the promises 30 to 39, each where its boundary lies. */
final class TimeSentencesTest {
    private static final Class<IllegalArgumentException> ARGUMENT = IllegalArgumentException.class;
    private static final Class<IllegalStateException> STATE = IllegalStateException.class;
    private static final Class<IndexOutOfBoundsException> INDEX = IndexOutOfBoundsException.class;
    private static final Class<ArithmeticException> ARITHMETIC = ArithmeticException.class;
    private static final int LEAST = Integer.MIN_VALUE;
    private static final int MOST = Integer.MAX_VALUE;
    private static final int[] NEVER = {0, -1, 1, 39, 40, LEAST, MOST};
    private static final int[] NOT_OF_SEVEN = {-1, 7, 8, 39, 40, LEAST, MOST};

    private TimeSentencesTest() {
    }

    // ---- promises 30 and 31

    @Says({"30: Returns the present time.", "30: Returns the number of minutes that have passed."})
    static void nowFrom0To20000() {
        DeskExchange x = new DeskExchange();
        Check.equal("at first", x.now(), 0);
        x.pass(1);
        Check.equal("a minute later", x.now(), 1);
        x.pass(1000);
        Check.equal("a thousand later", x.now(), 1001);
        Check.throwsJust("none has passed", ARGUMENT, () -> x.pass(0));
        Check.equal("the same", x.now(), 1001);
        Desk.passUntil(x, 20000);
        Check.equal("at last", x.now(), 20000);
    }

    @Says({"31: Lets time pass.", "31: `minutes`: the number of minutes, 1 to 1000"})
    static void passFrom1To1000() {
        DeskExchange x = Desk.promising(9);
        Desk.open(x, 0, "a");
        int[] minutes = {1, 2, 999, 1000};
        int[] times = {1, 3, 1002, 2002};
        for (int i = 0; i < minutes.length; i++) {
            Check.equal("pass", x.pass(minutes[i]), 0);
            Check.equal("the time", x.now(), times[i]);
            Check.equal("the clock", x.clock(0), times[i]);
        }
    }

    @Says("31: Returns the number of tickets that were solved in these minutes.")
    static void countsWhatIsSolvedInTheseMinutes() {
        DeskExchange x = Desk.inAllStates();
        x.confirm(4, true);
        Check.equal("nothing ahead of the end", x.pass(6), 0);
        Check.equal("the change, in its last minute", x.pass(1), 1);
        Check.equal("not again", x.pass(22), 0);
        Check.equal("the person, in the last minute", x.pass(1), 1);
        x.assign(2, 0);
        Check.equal("with the joined one, long ahead of the end", x.pass(1000), 2);
        Check.equal("none is left", x.pass(1000), 0);
    }

    @Says("31: Returns the number of tickets that were solved in these minutes.")
    static void countsUpTo40() {
        DeskExchange x = Desk.promising(9);
        Desk.cause(x, 1, -1, "fan");
        x.addPerson(1, 0, 1440);
        x.planChange(0, 0, 2, true);
        for (int i = 0; i < 20; i++) {
            Desk.openEach(x, "fan", "else");
        }
        for (int i = 5; i < 40; i += 2) {
            x.join(i, i < 20 ? 0 : 3);
        }
        x.assign(1, 0);
        x.addPerson(0, 0, 1440);
        x.assign(3, 1);
        Check.equal("20 hushed ones with 8, one, and one with 10", x.pass(30), 40);
    }

    @Says("31: Throws `IllegalArgumentException` if the number is out of range")
    static void minutesOutOfRange() {
        DeskExchange x = new DeskExchange();
        Check.eachThrows("pass", ARGUMENT, new int[] {0, -1, 1001, 1002, 20000, LEAST, MOST}, x::pass);
        Check.equal("no time has passed", x.now(), 0);
    }

    @Says("31: Throws `IllegalStateException` if the time would be greater than 20000")
    static void timeBeyond20000() {
        DeskExchange x = new DeskExchange();
        Desk.passUntil(x, 19001);
        Check.throwsJust("to 20001", STATE, () -> x.pass(1000));
        Check.equal("to 20000", x.pass(999), 0);
        Check.equal("the time", x.now(), 20000);
        Check.eachThrows("beyond", STATE, new int[] {1, 2, 999, 1000}, x::pass);
        DeskExchange y = new DeskExchange();
        Desk.passUntil(y, 19000);
        Check.equal("a thousand to 20000", y.pass(1000), 0);
        DeskExchange z = new DeskExchange();
        Desk.passUntil(z, 19999);
        Check.throwsJust("2 from 19999", STATE, () -> z.pass(2));
        Check.equal("1 from 19999", z.pass(1), 0);
    }

    // ---- promises 32 to 34

    @Says({"32: Returns the clock of a ticket, as it is kept.",
        "32: Returns the number of minutes in which it ran."})
    static void clockFrom0To20000() {
        DeskExchange x = Desk.promising(9);
        Desk.open(x, 0, "a");
        Check.equal("at first", x.clock(0), 0);
        x.pass(1);
        Check.equal("a minute later", x.clock(0), 1);
        Desk.passUntil(x, 19999);
        Desk.open(x, 0, "a");
        Check.equal("opened at 19999", x.clock(1), 0);
        x.pass(1);
        Check.equal("all minutes", x.clock(0), 20000);
        Check.equal("the last minute", x.clock(1), 1);
        Desk.open(x, 0, "a");
        Check.equal("opened at 20000", x.clock(2), 0);
        for (int i = 0; i < 3; i++) {
            Check.equal("from the log", x.clockFromLog(i), x.clock(i));
        }
    }

    @Says("32: Throws `IndexOutOfBoundsException` if there is no such ticket")
    static void clockOfNoTicket() {
        DeskExchange empty = new DeskExchange();
        Check.eachThrows("without tickets", INDEX, NEVER, empty::clock);
        Check.eachThrows("with seven", INDEX, NOT_OF_SEVEN, Desk.inAllStates()::clock);
    }

    @Says({"33: Returns the same clock, computed from the times at which it began to run and stopped.",
        "33: Returns the number of minutes."})
    static void clockInParts() {
        DeskExchange x = Desk.trusting();
        x.planChange(0, 2, 4, true);
        x.planChange(0, 4, 6, true);
        x.failChange(0);
        x.failChange(1);
        Desk.openEach(x, "fan", "else");
        checkClocks(x, 0, 0);
        x.join(3, 2);
        x.pass(2);
        checkClocks(x, 0, 0);
        x.pass(1);
        checkClocks(x, 1, 1);
        x.assign(2, 0);
        x.letGo(0);
        Desk.open(x, 0, "fan");
        x.assign(2, 0);
        Check.equal("the parent and the joined one", x.pass(1), 2);
        checkClocks(x, 2, 2);
        x.pass(9);
        checkClocks(x, 2, 2);
        Check.equal("one that was hushed in its first minute", x.clockFromLog(4), 9);
    }

    @Says("33: computed from the times at which it began to run and stopped.")
    static void clockStopsAndRunsInTheSameMinute() {
        DeskExchange x = Desk.trusting();
        Desk.openEach(x, "fan", "else", "else");
        x.pass(3);
        x.join(3, 2);
        x.confirm(2, false);
        x.pass(2);
        checkClocks(x, 2, 5);
        x.join(4, 2);
        x.assign(2, 0);
        Check.equal("all three", x.pass(1), 3);
        checkClocks(x, 3, 6);
        Check.equal("one that was joined without a stop", x.clockFromLog(4), 6);
        Check.equal("the clock of it", x.clock(4), 6);
    }

    /** The clocks of the tickets 2 and 3, both ways. */
    private static void checkClocks(DeskExchange x, int second, int third) {
        Check.equal("the clock of 2", x.clock(2), second);
        Check.equal("the clock of 2 from the log", x.clockFromLog(2), second);
        Check.equal("the clock of 3", x.clock(3), third);
        Check.equal("the clock of 3 from the log", x.clockFromLog(3), third);
    }

    @Says("33: Throws `IndexOutOfBoundsException` if there is no such ticket")
    static void clockFromLogOfNoTicket() {
        DeskExchange empty = new DeskExchange();
        Check.eachThrows("without tickets", INDEX, NEVER, empty::clockFromLog);
        Check.eachThrows("with seven", INDEX, NOT_OF_SEVEN, Desk.inAllStates()::clockFromLog);
    }

    @Says({"34: Returns whether the promise of a ticket is broken.", "34: Returns true if it is broken."})
    static void brokenFromTheNextMinuteOn() {
        for (int promise : new int[] {1, 2, 5000}) {
            DeskExchange x = Desk.promising(promise);
            x.addPerson(0, 0, 1440);
            Desk.open(x, 0, "a");
            Check.equal("at first", x.isBroken(0), false);
            Desk.passUntil(x, promise);
            Check.equal("as many minutes as promised", x.isBroken(0), false);
            x.pass(1);
            Check.equal("one more", x.isBroken(0), true);
            x.assign(0, 0);
            x.pass(30);
            Check.equal("solved, but broken", x.isBroken(0), true);
        }
    }

    @Says("34: Returns whether the promise of a ticket is broken.")
    static void solvedJustInTime() {
        for (int promise : new int[] {29, 30, 31}) {
            DeskExchange x = Desk.promising(promise);
            x.addPerson(0, 0, 1440);
            Desk.open(x, 0, "a");
            x.assign(0, 0);
            x.pass(30);
            x.pass(9);
            Check.equal("solved after 30 minutes", x.isBroken(0), promise == 29);
        }
    }

    @Says("34: Throws `IndexOutOfBoundsException` if there is no such ticket")
    static void brokenOfNoTicket() {
        DeskExchange empty = new DeskExchange();
        Check.eachThrows("without tickets", INDEX, NEVER, empty::isBroken);
        Check.eachThrows("with seven", INDEX, NOT_OF_SEVEN, Desk.inAllStates()::isBroken);
    }

    // ---- promises 35 and 36

    @Says({"35: Writes a line about a ticket in place of the line before: \"ticket \", its number, \": \""
        + " and its state as \"open\", \"in work\", \"answered\", \"hushed\", \"joined to \" with the"
        + " number of the parent, or \"solved by a \" with \"person\", \"page\" or \"change\";",
        "35: Returns the length of the line."})
    static void lineOfEachState() {
        DeskExchange x = Desk.inAllStates();
        checkLine(x, 0, "ticket 0: solved by a person");
        checkLine(x, 2, "ticket 2: open");
        checkLine(x, 3, "ticket 3: in work");
        checkLine(x, 4, "ticket 4: answered");
        checkLine(x, 5, "ticket 5: hushed");
        checkLine(x, 6, "ticket 6: joined to 2");
        x.confirm(4, true);
        checkLine(x, 4, "ticket 4: solved by a page");
        x.pass(7);
        checkLine(x, 5, "ticket 5: solved by a change");
    }

    private static void checkLine(DeskExchange x, int ticket, String due) {
        Check.equal("writeLine", x.writeLine(ticket), due.length());
        StringBuilder line = new StringBuilder();
        for (int i = 0; i < due.length(); i++) {
            line.append(x.lineAt(i));
        }
        Check.equal("the line", line.toString(), due);
        Check.throwsJust("behind it", INDEX, () -> x.lineAt(due.length()));
    }

    @Says("35: Writes a line about a ticket in place of the line before:")
    static void shorterLineInPlaceOfALonger() {
        DeskExchange x = Desk.inAllStates();
        checkLine(x, 0, "ticket 0: solved by a person");
        checkLine(x, 2, "ticket 2: open");
        checkLine(x, 2, "ticket 2: open");
        checkLine(x, 1, "ticket 1: solved by a person");
    }

    @Says("35: and \", late\" at the end if its promise is broken. An example is \"ticket 3: solved by a"
        + " page, late\".")
    static void lateLines() {
        DeskExchange x = Desk.promising(3);
        Desk.cause(x, 1, -1, "fan");
        x.addPage(0);
        x.addPerson(1, 0, 1440);
        Desk.raiseTrust(x, 0, 0, "fan");
        Desk.openEach(x, "fan", "else", "else");
        x.pass(3);
        checkLine(x, 3, "ticket 3: open");
        x.pass(1);
        checkLine(x, 3, "ticket 3: open, late");
        x.assign(4, 0);
        checkLine(x, 4, "ticket 4: in work, late");
        x.join(3, 2);
        checkLine(x, 3, "ticket 3: joined to 2, late");
        x.confirm(2, true);
        checkLine(x, 3, "ticket 3: solved by a page, late");
        checkLine(x, 2, "ticket 2: solved by a page");
        x.pass(30);
        checkLine(x, 4, "ticket 4: solved by a person, late");
        x.planChange(0, 36, 37, true);
        Desk.openEach(x, "fan");
        x.pass(1);
        checkLine(x, 5, "ticket 5: solved by a change");
    }

    @Says("35: and \", late\" at the end if its promise is broken.")
    static void lateOnesOfAHushedParent() {
        DeskExchange x = Desk.promising(1);
        Desk.cause(x, 1, -1, "fan");
        Desk.open(x, 0, "else");
        x.pass(2);
        x.planChange(0, 2, 3, true);
        Desk.open(x, 0, "fan");
        x.join(0, 1);
        x.pass(1);
        checkLine(x, 0, "ticket 0: solved by a change, late");
        checkLine(x, 1, "ticket 1: solved by a change");
    }

    @Says("35: its number,")
    static void numbersOfTwoDigits() {
        DeskExchange x = Desk.promising(9);
        for (int i = 0; i < 40; i++) {
            Desk.open(x, 0, "a");
        }
        x.join(9, 39);
        x.join(38, 10);
        checkLine(x, 9, "ticket 9: joined to 39");
        checkLine(x, 38, "ticket 38: joined to 10");
        checkLine(x, 39, "ticket 39: open");
        checkLine(x, 10, "ticket 10: open");
    }

    @Says("35: Throws `IndexOutOfBoundsException` if there is no such ticket")
    static void lineOfNoTicket() {
        DeskExchange empty = new DeskExchange();
        Check.eachThrows("without tickets", INDEX, NEVER, empty::writeLine);
        Check.throwsJust("no line was written", INDEX, () -> empty.lineAt(0));
        DeskExchange x = Desk.inAllStates();
        x.writeLine(2);
        Check.eachThrows("with seven", INDEX, NOT_OF_SEVEN, x::writeLine);
        Check.equal("the line before is there still", x.lineAt(13), 'n');
    }

    @Says({"36: Returns a character of the line, which is empty at first.",
        "36: Throws `IndexOutOfBoundsException` if there is no such character"})
    static void lineIsEmptyAtFirst() {
        DeskExchange x = Desk.inAllStates();
        Check.eachThrows("at first", INDEX, NEVER, x::lineAt);
        x.type('a');
        Check.throwsJust("typed text is no line", INDEX, () -> x.lineAt(0));
    }

    @Says({"36: `index`: the index, counted from 0", "36: Returns the character.",
        "36: Throws `IndexOutOfBoundsException` if there is no such character"})
    static void indexFrom0() {
        DeskExchange x = Desk.inAllStates();
        String due = "ticket 6: joined to 2";
        Check.equal("the length", x.writeLine(6), 21);
        for (int i = 0; i < 21; i++) {
            Check.equal("character " + i, x.lineAt(i), due.charAt(i));
        }
        Check.eachThrows("none", INDEX, new int[] {-1, 21, 22, LEAST, MOST}, x::lineAt);
    }

    @Says("36: Returns a character of the line")
    static void lineIsNotWrittenAgain() {
        DeskExchange x = Desk.inAllStates();
        x.writeLine(4);
        x.confirm(4, true);
        x.pass(99);
        Check.equal("as it was written", x.lineAt(10), 'a');
        Check.throwsJust("so long", INDEX, () -> x.lineAt(18));
        checkLine(x, 4, "ticket 4: solved by a page");
    }

    // ---- promises 37 and 38

    @Says({"37: Returns the mean clock of the solved tickets: the sum of their clocks, converted to"
        + " double, divided by their number, converted to double.", "37: Returns the mean."})
    static void meanOfTheSolvedOnes() {
        DeskExchange x = Desk.promising(9);
        x.addPerson(0, 0, 1440);
        Desk.openEach(x, "a", "b", "c", "d");
        double[] due = {30.0, 45.0, 60.0};
        for (int i = 0; i < due.length; i++) {
            x.assign(i, 0);
            x.pass(30);
            Check.equal("the mean of " + (i + 1), x.meanClock(), due[i]);
        }
        Desk.open(x, 0, "e");
        x.pass(1);
        x.join(4, 3);
        x.assign(3, 0);
        x.pass(30);
        Check.equal("180, 121 and 31", x.meanClock(), 332.0 / 5.0);
    }

    @Says("37: the sum of their clocks, converted to double, divided by their number, converted to"
        + " double.")
    static void meanIsNotRounded() {
        DeskExchange x = Desk.promising(9);
        Desk.cause(x, 1, -1, "fan");
        Desk.cause(x, 2, -1, "key");
        x.addPerson(3, 0, 1440);
        Desk.openEach(x, "fan", "key");
        x.assign(0, 0);
        x.pass(1);
        x.assign(1, 0);
        x.pass(2);
        Desk.open(x, 0, "fan");
        x.assign(2, 0);
        x.pass(1);
        Check.equal("5 of 3", x.meanClock(), 5.0 / 3.0);
    }

    @Says("37: Returns the mean clock of the solved tickets:")
    static void meanFrom0ToManyMinutes() {
        DeskExchange x = Desk.promising(9);
        Desk.cause(x, 1, -1, "fan");
        x.planChange(0, 19999, 20000, true);
        for (int i = 0; i < 39; i++) {
            Desk.open(x, 0, "else");
        }
        Desk.passUntil(x, 19999);
        Desk.open(x, 0, "fan");
        x.join(0, 39);
        x.pass(1);
        Check.equal("0 and 19999", x.meanClock(), 9999.5);
        DeskExchange y = Desk.promising(9);
        Desk.cause(y, 1, -1, "fan");
        y.planChange(0, 0, 1, true);
        Desk.open(y, 0, "fan");
        y.pass(1);
        Check.equal("0 alone", y.meanClock(), 0.0);
    }

    @Says("37: Throws `ArithmeticException` if no ticket is solved")
    static void meanOfNone() {
        DeskExchange x = Desk.promising(9);
        Check.throwsJust("no ticket", ARITHMETIC, () -> x.meanClock());
        x.addPerson(0, 0, 1440);
        Desk.open(x, 0, "a");
        x.assign(0, 0);
        x.pass(29);
        Check.throwsJust("none is solved", ARITHMETIC, () -> x.meanClock());
        x.pass(1);
        Check.equal("one is solved", x.meanClock(), 30.0);
    }

    @Says({"38: Returns the share of tickets whose promise is broken: their number divided by the number"
        + " of all tickets, both converted to float.", "38: Returns the share."})
    static void shareFrom0To1() {
        DeskExchange x = Desk.promising(1);
        x.addCustomer(2);
        x.addCustomer(3);
        for (int i = 0; i < 3; i++) {
            Desk.open(x, i, "a");
        }
        float[] due = {0f, 0f, 1f / 3f, 2f / 3f, 1f};
        for (int i = 0; i < due.length; i++) {
            Check.equal("at " + i, x.brokenShare(), due[i]);
            x.pass(1);
        }
        for (int i = 3; i < 40; i++) {
            Desk.open(x, 0, "a");
        }
        Check.equal("3 of 40", x.brokenShare(), 3f / 40f);
    }

    @Says("38: Throws `ArithmeticException` if there are no tickets")
    static void shareOfNone() {
        DeskExchange x = Desk.promising(1);
        Check.throwsJust("no ticket", ARITHMETIC, () -> x.brokenShare());
        Desk.open(x, 0, "a");
        Check.equal("one ticket", x.brokenShare(), 0f);
    }

    // ---- promise 39

    @Says({"39: Checks the invariants: for each ticket, both ways of computing the clock and both ways of"
        + " finding the cause agree; for each kind of part, the reserved parts are as many as the tickets"
        + " for which one is reserved; and no two people work on the same ticket.",
        "39: Returns true if the invariants hold."})
    static void invariantsHoldInEachMinute() {
        Check.equal("of a new desk", new DeskExchange().isConsistent(), true);
        DeskExchange x = Desk.inAllStates();
        Check.equal("in all states", x.isConsistent(), true);
        x.addCause(2, 0);
        Desk.keyword(x, 1, "key");
        x.addStock(0, 3);
        x.addPerson(255, 0, 1440);
        for (int i = 0; i < 4; i++) {
            Desk.open(x, 0, "key");
        }
        x.assign(7, 1);
        x.join(8, 7);
        x.join(9, 5);
        x.failChange(0);
        for (int i = 0; i < 40; i++) {
            Check.equal("at " + x.now(), x.isConsistent(), true);
            x.pass(1);
        }
        Check.equal("at last", Desk.states(x, 11), "ssosaojssjo");
    }
}

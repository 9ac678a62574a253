import java.util.NoSuchElementException;

/** Promises 11 to 23: tickets. */
final class TicketsTest {
    private static final Class<IllegalArgumentException> ARGUMENT = IllegalArgumentException.class;
    private static final Class<IllegalStateException> STATE = IllegalStateException.class;
    private static final Class<IndexOutOfBoundsException> INDEX = IndexOutOfBoundsException.class;
    private static final Class<NoSuchElementException> NONE = NoSuchElementException.class;
    private static final Class<UnsupportedOperationException> UNABLE =
            UnsupportedOperationException.class;

    private TicketsTest() {
    }

    static void run() {
        opening();
        openingThrows();
        openingReserves();
        openingHushes();
        openingAnswers();
        states();
        noTicket();
        scores();
        raised();
        fromLog();
        likenesses();
        mostLikes();
        joining();
        joiningThrows();
        joinedAreSolved();
        joinedToAnswered();
        confirmed();
        confirmedLimits();
        assigned();
        assignedParts();
        letGone();
        solvers();
        nextOnes();
    }

    private static void opening() {
        DeskExchange x = Desk.promising(10);
        x.addCustomer(3);
        Check.equal("11 the first", Desk.open(x, 0, "fan"), 0);
        Check.equal("11 the second", Desk.open(x, 1, "  a b  "), 1);
        Check.equal("11 the buffer is empty", x.type('c'), 1);
        Check.equal("11 the third", x.open(1), 2);
        x.pass(4);
        Check.equal("11 its customer", x.isBroken(0), false);
        Check.equal("11 the other's", x.isBroken(1), true);
        Check.equal("11 blanks at the ends do not matter", x.likeness(1, 1), 2);
        Check.equal("11 forty characters", Desk.open(x, 0, "a ".repeat(19) + "ab"), 3);
        Check.equal("11 have two words", x.likeness(3, 3), 2);
    }

    private static void openingThrows() {
        DeskExchange x = Desk.promising(10);
        for (int customer : new int[] {-1, 1, 5, Integer.MAX_VALUE, Integer.MIN_VALUE}) {
            Check.throwsJust("11 no customer", INDEX, () -> Desk.open(x, customer, "a"));
            Check.throwsJust("11 the buffer is empty", ARGUMENT, () -> x.open(0));
            Check.throwsJust("11 no customer ahead of no word", INDEX, () -> x.open(customer));
        }
        Check.throwsJust("11 blanks alone", ARGUMENT, () -> Desk.open(x, 0, "   "));
        Check.equal("11 are gone", x.type('a'), 1);
        for (int i = 0; i < 40; i++) {
            x.type('b');
            Check.equal("11 open", x.open(0), i);
        }
        Check.throwsJust("11 a 41st", STATE, () -> Desk.open(x, 0, "a"));
        Check.equal("11 its text is gone", x.type(' '), 1);
        Check.throwsJust("11 no word ahead of a 41st", ARGUMENT, () -> x.open(0));
        Check.throwsJust("11 no customer ahead of a 41st", INDEX, () -> Desk.open(x, 1, "a"));
        Check.throwsJust("11 no ticket 40", INDEX, () -> x.state(40));
        Check.equal("11 the last", x.state(39), 'o');
    }

    private static void openingReserves() {
        DeskExchange x = Desk.promising(10);
        Desk.cause(x, 1, 3, "fan");
        Desk.cause(x, 1, -1, "key");
        x.addStock(3, 2);
        x.addStock(0, 1);
        Desk.open(x, 0, "key");
        Desk.open(x, 0, "else");
        Check.equal("11 none is needed", x.reserved(3), 0);
        Desk.open(x, 0, "fan");
        Check.equal("11 one is reserved", x.reserved(3), 1);
        Check.equal("11 and one is free", x.free(3), 1);
        Desk.open(x, 0, "fan");
        Desk.open(x, 0, "fan");
        Check.equal("11 both are reserved", x.reserved(3), 2);
        Check.equal("11 none is free", x.free(3), 0);
        Check.equal("11 the other kind is free", x.free(0), 1);
        Check.isTrue("11 isConsistent", x.isConsistent());
    }

    private static void openingHushes() {
        DeskExchange x = Desk.promising(10);
        Desk.cause(x, 1, -1, "fan");
        Desk.cause(x, 1, -1, "key");
        x.planChange(1, 0, 5, true);
        x.planChange(0, 1, 9, true);
        x.planChange(0, 1, 3, true);
        Check.equal("11 ahead of it", x.state(Desk.open(x, 0, "fan")), 'o');
        x.pass(1);
        Check.equal("11 hushed", x.state(Desk.open(x, 0, "fan")), 'h');
        Check.equal("11 no cause", x.state(Desk.open(x, 0, "else")), 'o');
        Check.equal("11 another cause", x.state(Desk.open(x, 0, "key")), 'h');
        x.pass(2);
        Check.equal("11 by the one with the lowest number", x.state(1), 'h');
        x.pass(2);
        Check.equal("11 at its end", x.state(Desk.open(x, 0, "key")), 'o');
        x.pass(3);
        Check.equal("11 in its last minute", x.state(Desk.open(x, 0, "fan")), 'h');
        x.pass(1);
        Check.equal("11 the first is solved", x.solvedBy(1), 'c');
        Check.equal("11 the last too", x.solvedBy(5), 'c');
        Check.equal("11 one that was there stays open", x.state(0), 'o');
    }

    private static void openingAnswers() {
        DeskExchange x = Desk.promising(10);
        Desk.cause(x, 1, -1, "fan");
        Desk.cause(x, 1, -1, "key");
        x.addPage(1);
        x.addPage(0);
        x.addPerson(3, 0, 1440);
        Desk.open(x, 0, "fan");
        Check.equal("11 trust 50", x.state(0), 'o');
        x.assign(0, 0);
        x.pass(1);
        Check.equal("11 trust 60", x.state(Desk.open(x, 0, "fan")), 'o');
        x.assign(1, 0);
        x.pass(1);
        Check.equal("11 trust 70", x.state(Desk.open(x, 0, "fan")), 'a');
        Check.equal("11 the other page", x.state(Desk.open(x, 0, "key")), 'o');
        Check.equal("11 no cause", x.state(Desk.open(x, 0, "else")), 'o');
        x.planChange(0, 2, 4, true);
        Check.equal("11 hushed ahead of answered", x.state(Desk.open(x, 0, "fan")), 'h');
        x.pass(2);
        Check.equal("11 answered again", x.state(Desk.open(x, 0, "fan")), 'a');
        x.confirm(6, false);
        Check.equal("11 trust 60 again", x.state(Desk.open(x, 0, "fan")), 'o');
        Check.equal("11 what was answered stays so", x.state(2), 'a');
    }

    private static void states() {
        DeskExchange x = Desk.promising(10);
        Desk.cause(x, 1, -1, "fan");
        x.addPage(0);
        x.addPerson(1, 0, 1440);
        Desk.raiseTrust(x, 0, 0, "fan");
        Check.equal("12 solved", x.state(0), 's');
        Check.equal("12 solved too", x.state(1), 's');
        Check.equal("12 answered", x.state(Desk.open(x, 0, "fan")), 'a');
        Check.equal("12 open", x.state(Desk.open(x, 0, "else")), 'o');
        x.assign(3, 0);
        Check.equal("12 worked on", x.state(3), 'w');
        Desk.open(x, 0, "more");
        x.join(4, 3);
        Check.equal("12 joined", x.state(4), 'j');
        x.planChange(0, 2, 9, true);
        Check.equal("12 hushed", x.state(Desk.open(x, 0, "fan")), 'h');
    }

    private static void noTicket() {
        DeskExchange x = Desk.promising(10);
        x.addPerson(1, 0, 1440);
        Desk.open(x, 0, "fan");
        for (int i : new int[] {-1, 1, 40, Integer.MAX_VALUE, Integer.MIN_VALUE}) {
            Check.throwsJust("12 no ticket", INDEX, () -> x.state(i));
            Check.throwsJust("13 no ticket", INDEX, () -> x.cause(i));
            Check.throwsJust("14 no ticket", INDEX, () -> x.causeFromLog(i));
            Check.throwsJust("15 no ticket", INDEX, () -> x.likeness(0, i));
            Check.throwsJust("15 no ticket", INDEX, () -> x.likeness(i, 0));
            Check.throwsJust("16 no ticket", INDEX, () -> x.mostLike(i));
            Check.throwsJust("17 no ticket", INDEX, () -> x.join(0, i));
            Check.throwsJust("17 no ticket", INDEX, () -> x.join(i, 0));
            Check.throwsJust("17 no ticket, twice", INDEX, () -> x.join(i, i));
            Check.throwsJust("18 no ticket", INDEX, () -> x.parentOf(i));
            Check.throwsJust("19 no ticket", INDEX, () -> x.confirm(i, true));
            Check.throwsJust("20 no ticket", INDEX, () -> x.assign(i, 0));
            Check.throwsJust("20 no person", INDEX, () -> x.assign(0, i));
            Check.throwsJust("21 no person", INDEX, () -> x.letGo(i));
            Check.throwsJust("22 no ticket", INDEX, () -> x.solvedBy(i));
            Check.throwsJust("32 no ticket", INDEX, () -> x.clock(i));
            Check.throwsJust("33 no ticket", INDEX, () -> x.clockFromLog(i));
            Check.throwsJust("34 no ticket", INDEX, () -> x.isBroken(i));
            Check.throwsJust("35 no ticket", INDEX, () -> x.writeLine(i));
        }
        Check.throwsJust("13 no cause", NONE, () -> x.cause(0));
        Check.throwsJust("14 no cause", NONE, () -> x.causeFromLog(0));
        x.assign(0, 0);
        Check.throwsJust("20 no person ahead of a state", INDEX, () -> x.assign(0, 1));
    }

    private static void scores() {
        DeskExchange x = Desk.promising(10);
        Desk.cause(x, 1, -1, "a");
        Desk.cause(x, 1, -1, "a");
        Desk.keyword(x, 1, "b");
        Desk.cause(x, 1, -1, "c");
        Desk.keyword(x, 2, "b");
        Desk.keyword(x, 2, "d");
        x.addCause(1, -1);
        String[] texts = {"a", "b", "b a", "c b", "a b c", "a a a b", "b c d a", "d", "ab c", "a a c"};
        int[] due = {0, 1, 1, 2, 1, 1, 2, 2, 2, 0};
        for (int i = 0; i < texts.length; i++) {
            Check.equal("13 cause of " + texts[i], x.cause(Desk.open(x, 0, texts[i])), due[i]);
            Check.equal("14 cause of " + texts[i], x.causeFromLog(i), due[i]);
        }
        Desk.open(x, 0, "ab cd aa");
        Check.throwsJust("13 parts of words are none", NONE, () -> x.cause(10));
        Check.throwsJust("14 parts of words are none", NONE, () -> x.causeFromLog(10));
    }

    private static void raised() {
        DeskExchange x = Desk.promising(10);
        Desk.cause(x, 1, -1, "a");
        Desk.cause(x, 1, -1, "b");
        x.addCause(1, -1);
        x.planChange(1, 2, 4, false);
        x.planChange(1, 2, 4, false);
        x.planChange(2, 3, 5, false);
        x.planChange(2, 2, 9, true);
        x.failChange(0);
        Desk.open(x, 0, "a b");
        x.pass(2);
        Desk.open(x, 0, "a b");
        Desk.open(x, 0, "a");
        Desk.open(x, 0, "else");
        Check.equal("13 ahead of it", x.cause(0), 0);
        Check.equal("13 raised, also if it has failed", x.cause(1), 1);
        Check.equal("13 raised by 1 alone", x.cause(2), 0);
        Check.equal("13 raised without a keyword", x.cause(3), 1);
        x.pass(2);
        Desk.open(x, 0, "a b");
        Desk.open(x, 0, "else");
        Check.equal("13 at its end", x.cause(4), 0);
        Check.equal("13 another is raised", x.cause(5), 2);
        Check.equal("13 and hushed", x.state(5), 'h');
        x.pass(1);
        Desk.open(x, 0, "else");
        Check.throwsJust("13 hushed alone is none", NONE, () -> x.cause(6));
        int[] due = {0, 1, 0, 1, 0, 2};
        for (int i = 0; i < due.length; i++) {
            Check.equal("14 the same", x.causeFromLog(i), due[i]);
        }
        Check.throwsJust("14 none", NONE, () -> x.causeFromLog(6));
        DeskExchange y = Desk.promising(10);
        y.addCause(1, -1);
        y.planChange(0, 0, 1, false);
        Desk.open(y, 0, "else");
        Check.equal("13 by the first change", y.cause(0), 0);
        Check.equal("14 by the first change", y.causeFromLog(0), 0);
    }

    private static void fromLog() {
        DeskExchange x = Desk.promising(10);
        Desk.cause(x, 1, -1, "a");
        x.pass(3);
        Desk.open(x, 0, "a b c");
        Desk.open(x, 0, "e f");
        x.planChange(0, 3, 9, false);
        Check.throwsJust("14 a change of the same minute was not there", NONE, () -> x.causeFromLog(1));
        Desk.cause(x, 1, -1, "b");
        Desk.keyword(x, 1, "c");
        Desk.keyword(x, 0, "e");
        x.planChange(1, 3, 20, false);
        Check.equal("13 does not change", x.cause(0), 0);
        Check.equal("14 does not change", x.causeFromLog(0), 0);
        Check.throwsJust("13 stays none", NONE, () -> x.cause(1));
        Check.throwsJust("14 stays none", NONE, () -> x.causeFromLog(1));
        Check.equal("14 the new ones count now", x.causeFromLog(Desk.open(x, 0, "a b c")), 1);
        x.pass(30);
        Check.equal("14 changes that have ended count", x.causeFromLog(2), 1);
        Check.isTrue("39 isConsistent", x.isConsistent());
    }

    private static void likenesses() {
        DeskExchange x = Desk.promising(10);
        String[] texts = {"a b c", "c  b d", "a a a", "abc", "  b ", "e f g h i j k l m n o p q r s t u v w x"};
        int[][] due = {{3, 2, 1, 0, 1, 0}, {2, 3, 0, 0, 1, 0}, {1, 0, 1, 0, 0, 0},
            {0, 0, 0, 1, 0, 0}, {1, 1, 0, 0, 1, 0}, {0, 0, 0, 0, 0, 20}};
        for (String text : texts) {
            Desk.open(x, 0, text);
        }
        for (int i = 0; i < due.length; i++) {
            for (int k = 0; k < due.length; k++) {
                Check.equal("15 likeness " + i + " " + k, x.likeness(i, k), due[i][k]);
            }
        }
    }

    private static void mostLikes() {
        DeskExchange x = Desk.promising(10);
        x.addPerson(0, 0, 1440);
        String[] texts = {"a b c", "a", "b c", "a c", "d", "b c a"};
        for (String text : texts) {
            Desk.open(x, 0, text);
        }
        Check.equal("16 all three", x.mostLike(0), 5);
        Check.equal("16 of several the lowest", x.mostLike(1), 0);
        Check.equal("16 two", x.mostLike(3), 0);
        Check.throwsJust("16 not itself", NONE, () -> x.mostLike(4));
        x.join(5, 4);
        Check.equal("16 a joined one", x.mostLike(0), 5);
        x.assign(4, 0);
        Check.equal("16 is solved", x.pass(30), 2);
        Check.equal("16 not a solved one", x.mostLike(0), 2);
        Check.equal("16 of a solved one", x.mostLike(5), 0);
        DeskExchange y = Desk.promising(10);
        Desk.open(y, 0, "a");
        Check.throwsJust("16 no other", NONE, () -> y.mostLike(0));
    }

    private static void joining() {
        DeskExchange x = Desk.promising(10);
        x.addPerson(0, 0, 1440);
        for (int i = 0; i < 6; i++) {
            Desk.open(x, 0, "a");
        }
        Check.throwsJust("18 not joined", NONE, () -> x.parentOf(1));
        Check.equal("17 one", x.join(1, 3), 1);
        Check.equal("17 two", x.join(0, 3), 2);
        Check.equal("17 of another", x.join(2, 4), 1);
        x.assign(3, 0);
        Check.equal("17 to one that is worked on", x.join(5, 3), 3);
        Check.equal("18 parentOf", x.parentOf(1), 3);
        Check.equal("18 parentOf", x.parentOf(0), 3);
        Check.equal("18 parentOf", x.parentOf(2), 4);
        Check.throwsJust("18 a parent", NONE, () -> x.parentOf(3));
        Check.equal("17 all are solved", x.pass(30), 4);
        Check.equal("18 until it was solved", x.parentOf(5), 3);
        Check.throwsJust("18 a solved parent", NONE, () -> x.parentOf(3));
        Check.equal("17 the other stays joined", x.state(2), 'j');
    }

    private static void joiningThrows() {
        DeskExchange x = Desk.promising(10);
        x.addPerson(0, 0, 1440);
        x.addPerson(0, 0, 1440);
        for (int i = 0; i < 6; i++) {
            Desk.open(x, 0, "a");
        }
        Check.throwsJust("17 both the same", ARGUMENT, () -> x.join(0, 0));
        x.join(1, 0);
        Check.throwsJust("17 is joined", STATE, () -> x.join(1, 2));
        Check.throwsJust("17 both the same ahead of joined", ARGUMENT, () -> x.join(1, 1));
        Check.throwsJust("17 is a parent", STATE, () -> x.join(0, 2));
        Check.throwsJust("17 the parent is joined", STATE, () -> x.join(2, 1));
        x.assign(2, 0);
        Check.throwsJust("17 is worked on", STATE, () -> x.join(2, 0));
        x.assign(3, 1);
        x.pass(30);
        Check.throwsJust("17 is solved", STATE, () -> x.join(3, 0));
        Check.throwsJust("17 the parent is solved", STATE, () -> x.join(4, 3));
        Check.equal("17 nothing has changed", x.state(4), 'o');
        Check.throwsJust("17 never joined", NONE, () -> x.parentOf(4));
        Check.equal("17 joins after all", x.join(4, 0), 2);
    }

    private static void joinedAreSolved() {
        DeskExchange x = Desk.promising(100);
        Desk.cause(x, 5, 0, "fan");
        Desk.cause(x, 5, 1, "key");
        x.addPage(0);
        x.addPage(1);
        x.addStock(0, 3);
        x.addStock(1, 1);
        x.addPerson(3, 0, 1440);
        Desk.open(x, 0, "fan");
        Desk.open(x, 0, "fan");
        Desk.open(x, 0, "key");
        Desk.open(x, 0, "else");
        x.join(1, 0);
        x.join(2, 0);
        x.join(3, 0);
        Check.equal("17 parts stay reserved", x.reserved(0) * 10 + x.reserved(1), 21);
        x.assign(0, 0);
        Check.equal("31 solved", x.pass(5), 4);
        Check.equal("17 in the same way", "" + x.solvedBy(0) + x.solvedBy(1) + x.solvedBy(2)
                + x.solvedBy(3), "pppp");
        Check.equal("17 the parts are not reserved", x.reserved(0) + x.reserved(1), 0);
        Check.equal("17 one is used up", x.free(0), 2);
        Check.equal("17 the joined one's is free", x.free(1), 1);
        Check.equal("29 trust of the page", x.trust(0), 60);
        Check.equal("29 trust of a joined one's page", x.trust(1), 50);
        Check.equal("32 clock", x.clock(3), 5);
        x.pass(3);
        Check.equal("32 clock has stopped", x.clock(3), 5);
        Check.equal("33 clock has stopped", x.clockFromLog(3), 5);
        Check.isTrue("39 isConsistent", x.isConsistent());
    }

    /** A desk on which ticket 2 is answered for the cause 0, with a part, at the time 2. */
    private static DeskExchange answering() {
        DeskExchange x = Desk.promising(3);
        Desk.cause(x, 1, 0, "fan");
        x.addPage(0);
        x.addPerson(1, 0, 1440);
        x.addStock(0, 4);
        Desk.raiseTrust(x, 0, 0, "fan");
        Desk.open(x, 0, "fan");
        return x;
    }

    private static void joinedToAnswered() {
        DeskExchange x = answering();
        Desk.open(x, 0, "else");
        x.pass(2);
        x.join(3, 2);
        x.pass(7);
        Check.equal("32 the joined one's clock has stopped", x.clock(3), 2);
        x.confirm(2, false);
        x.pass(1);
        Check.equal("32 and runs again", x.clock(3), 3);
        Check.equal("32 with that of its parent", x.clock(2), 1);
        Check.equal("33 from the log", x.clockFromLog(3), 3);
        Check.isTrue("34 not broken", !x.isBroken(3));
        x.assign(2, 0);
        x.pass(1);
        Check.equal("33 from the log", x.clockFromLog(3), 4);
        Check.equal("34 broken", x.isBroken(3), true);
        Check.isTrue("39 isConsistent", x.isConsistent());
    }

    private static void confirmed() {
        DeskExchange x = answering();
        Check.equal("19 two used, one reserved, one free", x.reserved(0) * 10 + x.free(0), 11);
        Desk.open(x, 0, "else");
        x.join(3, 2);
        Check.throwsJust("19 joined", STATE, () -> x.confirm(3, true));
        Check.throwsJust("19 solved", STATE, () -> x.confirm(0, false));
        Check.equal("19 has helped", x.confirm(2, true), true);
        Check.equal("19 trust increases by 5", x.trust(0), 75);
        Check.equal("19 solved by a page", x.solvedBy(2), 'g');
        Check.equal("19 with what is joined", x.solvedBy(3), 'g');
        Check.equal("19 the part is free", x.reserved(0) * 10 + x.free(0), 2);
        Check.throwsJust("19 twice", STATE, () -> x.confirm(2, true));
        Desk.open(x, 0, "fan");
        Check.equal("19 has not helped", x.confirm(4, false), false);
        Check.equal("19 trust decreases by 10", x.trust(0), 65);
        Check.equal("19 the ticket is open", x.state(4), 'o');
        Check.equal("19 the part stays reserved", x.reserved(0), 1);
        Check.throwsJust("19 open", STATE, () -> x.confirm(4, true));
        x.pass(2);
        Check.equal("19 its clock runs", x.clock(4), 2);
    }

    private static void confirmedLimits() {
        DeskExchange x = answering();
        for (int i = 3; i < 15; i++) {
            Desk.open(x, 0, "fan");
        }
        int[] up = {75, 80, 85, 90, 95, 100, 100};
        for (int i = 0; i < up.length; i++) {
            Check.equal("19 has helped", x.confirm(2 + i, true), true);
            Check.equal("19 up to 100", x.trust(0), up[i]);
        }
        boolean[] due = {true, true, true, false, false, false};
        for (int i = 0; i < due.length; i++) {
            Check.equal("19 has not helped", x.confirm(9 + i, false), due[i]);
        }
        Check.equal("19 trust", x.trust(0), 40);
        DeskExchange y = answering();
        for (int i = 3; i < 11; i++) {
            Desk.open(y, 0, "fan");
        }
        int[] down = {60, 50, 40, 30, 20, 10, 0, 0};
        for (int i = 0; i < down.length; i++) {
            y.confirm(2 + i, false);
            Check.equal("19 down to 0", y.trust(0), down[i]);
        }
        Check.equal("19 helps below 70", y.confirm(10, true), false);
        Check.equal("19 trust", y.trust(0), 5);
    }

    private static void assigned() {
        DeskExchange x = Desk.promising(9);
        Desk.cause(x, 7, -1, "fan");
        Desk.cause(x, 8, -1, "key");
        x.addPerson(2, 0, 1440);
        x.addPerson(0, 0, 1440);
        Desk.open(x, 0, "key");
        Desk.open(x, 0, "fan");
        Desk.open(x, 0, "else");
        Desk.open(x, 0, "else");
        Check.throwsJust("20 lacks the skill", UNABLE, () -> x.assign(1, 0));
        Check.throwsJust("20 lacks the skill", UNABLE, () -> x.assign(0, 1));
        Check.equal("20 state", x.state(0), 'o');
        Check.equal("20 the work", x.assign(0, 0), 8);
        Check.throwsJust("20 is worked on", STATE, () -> x.assign(0, 1));
        Check.throwsJust("20 works, ahead of the skill", STATE, () -> x.assign(1, 0));
        Check.equal("20 no cause needs no skill", x.assign(2, 1), 30);
        Check.throwsJust("20 works", STATE, () -> x.assign(3, 1));
        Check.equal("20 workOf", x.workOf(0) * 10 + x.workOf(1), 2);
        Check.equal("20 the clock runs", x.pass(8), 1);
        Check.equal("20 the clock", x.clock(0), 8);
        Check.throwsJust("20 is solved", STATE, () -> x.assign(0, 0));
        Check.equal("20 works again", x.assign(3, 0), 30);
        Desk.open(x, 0, "key");
        x.join(4, 1);
        x.letGo(0);
        Check.throwsJust("20 is joined", STATE, () -> x.assign(4, 0));
    }

    private static void assignedParts() {
        DeskExchange x = Desk.promising(9);
        Desk.cause(x, 7, 2, "fan");
        x.addPerson(1, 0, 1440);
        x.addPerson(0, 0, 1440);
        Desk.open(x, 0, "fan");
        Desk.open(x, 0, "fan");
        Check.throwsJust("20 no part", UNABLE, () -> x.assign(0, 0));
        Check.throwsJust("20 no work", NoSuchElementException.class, () -> x.workOf(0));
        x.addStock(2, 1);
        x.addStock(1, 1);
        Check.throwsJust("20 no skill", UNABLE, () -> x.assign(0, 1));
        Check.equal("20 none is reserved then", x.reserved(2), 0);
        x.assign(0, 0);
        Check.equal("20 one is reserved", x.reserved(2), 1);
        x.letGo(0);
        Check.equal("20 one is reserved still", x.reserved(2), 1);
        Check.throwsJust("20 none for the other", UNABLE, () -> x.assign(1, 0));
        Check.equal("20 the reserved one is enough", x.assign(0, 0), 7);
        Check.equal("20 no second one is reserved", x.reserved(2), 1);
        x.pass(7);
        Check.equal("20 is used up", x.free(2) + x.reserved(2), 0);
        Check.isTrue("39 isConsistent", x.isConsistent());
    }

    private static void letGone() {
        DeskExchange x = Desk.promising(9);
        x.addPerson(0, 2, 1440);
        Check.throwsJust("21 works on none", STATE, () -> x.letGo(0));
        Desk.open(x, 0, "a");
        x.assign(0, 0);
        Check.equal("21 at once", x.letGo(0), 0);
        x.assign(0, 0);
        x.pass(12);
        Check.equal("21 after ten minutes of the shift", x.letGo(0), 10);
        Check.equal("21 is open", x.state(0), 'o');
        Check.throwsJust("21 twice", STATE, () -> x.letGo(0));
        Check.equal("21 the clock goes on", x.pass(1) * 100 + x.clock(0), 13);
        x.assign(0, 0);
        Check.equal("21 what was done is lost", x.minutesLeft(0), 30);
        Check.equal("21 not yet", x.pass(29), 0);
        Check.equal("21 solved", x.pass(1), 1);
        Check.throwsJust("21 is solved", STATE, () -> x.letGo(0));
    }

    private static void solvers() {
        DeskExchange x = answering();
        Check.equal("22 a person", x.solvedBy(0), 'p');
        Check.throwsJust("22 answered", NONE, () -> x.solvedBy(2));
        x.confirm(2, true);
        Check.equal("22 a page", x.solvedBy(2), 'g');
        x.planChange(0, 2, 4, true);
        Desk.open(x, 0, "fan");
        Check.throwsJust("22 hushed", NONE, () -> x.solvedBy(3));
        Check.equal("22 by a change", x.pass(2), 1);
        Check.equal("22 a change", x.solvedBy(3), 'c');
        Desk.open(x, 0, "else");
        Check.throwsJust("22 open", NONE, () -> x.solvedBy(4));
        x.assign(4, 0);
        Check.throwsJust("22 worked on", NONE, () -> x.solvedBy(4));
        Desk.open(x, 0, "else");
        x.join(5, 4);
        Check.throwsJust("22 joined", NONE, () -> x.solvedBy(5));
    }

    private static void nextOnes() {
        DeskExchange x = new DeskExchange();
        Check.throwsJust("23 none", NONE, () -> x.nextTicket());
        x.addCustomer(20);
        x.addCustomer(10);
        x.addPerson(0, 0, 1440);
        Desk.open(x, 0, "a");
        Check.equal("23 the only one", x.nextTicket(), 0);
        Desk.open(x, 1, "a");
        Check.equal("23 the shorter promise", x.nextTicket(), 1);
        x.pass(10);
        Desk.open(x, 1, "a");
        Desk.open(x, 0, "a");
        Check.equal("23 0 minutes left", x.nextTicket(), 1);
        x.assign(1, 0);
        Check.equal("23 of several the lowest, not one that is worked on", x.nextTicket(), 0);
        x.join(0, 3);
        Check.equal("23 not a joined one", x.nextTicket(), 2);
        x.pass(15);
        x.letGo(0);
        Check.equal("23 the one that is broken most", x.nextTicket(), 1);
        x.assign(1, 0);
        x.pass(30);
        Check.equal("23 not a solved one", x.nextTicket(), 2);
        x.join(2, 3);
        x.assign(3, 0);
        Check.throwsJust("23 none is open", NONE, () -> x.nextTicket());
    }
}

import java.util.NoSuchElementException;

/** The sentences of the promises 11 to 23, each where its boundary lies. */
final class TicketSentencesTest {
    private static final Class<IllegalArgumentException> ARGUMENT = IllegalArgumentException.class;
    private static final Class<IllegalStateException> STATE = IllegalStateException.class;
    private static final Class<IndexOutOfBoundsException> INDEX = IndexOutOfBoundsException.class;
    private static final Class<NoSuchElementException> NONE = NoSuchElementException.class;
    private static final Class<UnsupportedOperationException> UNABLE =
            UnsupportedOperationException.class;
    private static final int LEAST = Integer.MIN_VALUE;
    private static final int MOST = Integer.MAX_VALUE;
    private static final int[] NEVER = {0, -1, 1, 39, 40, LEAST, MOST};
    /** No numbers of the seven tickets of Desk.inAllStates(). */
    private static final int[] NOT_OF_SEVEN = {-1, 7, 8, 39, 40, LEAST, MOST};

    private TicketSentencesTest() {
    }

    /** There is no such ticket on a new desk, nor besides the seven of another one. */
    private static void checkNoSuchTicket(TicketCall call) {
        DeskExchange empty = new DeskExchange();
        empty.addPerson(255, 0, 1440);
        Check.eachThrows("without tickets", INDEX, NEVER, ticket -> call.on(empty, ticket));
        DeskExchange x = Desk.inAllStates();
        x.addPerson(255, 0, 1440);
        Check.eachThrows("with seven", INDEX, NOT_OF_SEVEN, ticket -> call.on(x, ticket));
    }

    interface TicketCall {
        Object on(DeskExchange x, int ticket);
    }

    // ---- promise 11

    @Says("11: Opens a ticket with the content of the text buffer,")
    static void textIsTheContent() {
        DeskExchange x = Desk.promising(9);
        Desk.openEach(x, "a", "a b c d e f g h i j k l m n o p q r s t", " ".repeat(39) + "t",
                "b".repeat(40), "b".repeat(39));
        Check.equal("of forty characters", x.likeness(1, 1), 20);
        Check.equal("the first character", x.likeness(0, 1), 1);
        Check.equal("the last character", x.likeness(1, 2), 1);
        Check.equal("a word of forty letters", x.likeness(3, 3), 1);
        Check.equal("not one of 39", x.likeness(3, 4), 0);
    }

    @Says("11: which is empty afterwards, also if an exception is thrown.")
    static void openEmptiesTheBuffer() {
        DeskExchange x = Desk.promising(9);
        Desk.open(x, 0, "a");
        Check.equal("afterwards", x.type('b'), 1);
        Check.throwsJust("no such customer", INDEX, () -> x.open(1));
        Check.equal("after no such customer", x.type(' '), 1);
        Check.throwsJust("no word", ARGUMENT, () -> x.open(0));
        Check.equal("after no word", x.type('c'), 1);
        x.open(0);
        Check.equal("nothing was left", x.likeness(1, 1), 1);
        for (int i = 2; i < 40; i++) {
            Desk.open(x, 0, "a");
        }
        Check.throwsJust("the 41st", STATE, () -> Desk.open(x, 0, "a"));
        Check.equal("after the 41st", x.type('d'), 1);
    }

    @Says({"11: `customer`: the customer", "11: Returns the number of the ticket."})
    static void customerAndNumber() {
        DeskExchange x = new DeskExchange();
        for (int i = 0; i < 5; i++) {
            x.addCustomer(5 - i);
        }
        for (int i = 0; i < 5; i++) {
            Check.equal("the number", Desk.open(x, i, "a"), i);
        }
        for (int clock = 0; clock <= 6; clock++) {
            for (int i = 0; i < 5; i++) {
                Check.equal("the customer's promise", x.isBroken(i), clock > 5 - i);
            }
            x.pass(1);
        }
    }

    @Says("11: Throws `IndexOutOfBoundsException` if there is no such customer")
    static void noSuchCustomer() {
        DeskExchange x = new DeskExchange();
        Check.eachThrows("without customers", INDEX, new int[] {0, -1, 4, LEAST, MOST},
                customer -> Desk.open(x, customer, "a"));
        x.addCustomer(1);
        x.addCustomer(1);
        Check.eachThrows("with two", INDEX, new int[] {-1, 2, 3, 5, LEAST, MOST},
                customer -> Desk.open(x, customer, "a"));
        Check.equal("the last", Desk.open(x, 1, "a"), 0);
    }

    @Says("11: Throws `IllegalArgumentException` if the content has no word")
    static void noWord() {
        DeskExchange x = Desk.promising(9);
        for (String content : new String[] {"", " ", "  ", " ".repeat(40)}) {
            Check.throwsJust("content \"" + content + "\"", ARGUMENT, () -> Desk.open(x, 0, content));
        }
        Check.equal("one of one letter", Desk.open(x, 0, " a "), 0);
    }

    @Says("11: Throws `IllegalStateException` if there are 40 tickets")
    static void ticket41Throws() {
        DeskExchange x = Desk.promising(9);
        for (int i = 0; i < 39; i++) {
            Desk.open(x, 0, "a");
        }
        Check.equal("the 40th", Desk.open(x, 0, "a"), 39);
        Check.throwsJust("the 41st", STATE, () -> Desk.open(x, 0, "a"));
        Check.throwsJust("no ticket was opened", INDEX, () -> x.state(40));
    }

    // ---- promise 12

    @Says({"12: Returns the state of a ticket.",
        "12: Returns 'o' if it is open, 'w' if it is worked on, 'a' if it is answered, 'h' if it is"
        + " hushed, 'j' if it is joined, 's' if it is solved."})
    static void stateLetters() {
        DeskExchange x = Desk.inAllStates();
        char[] due = {'s', 's', 'o', 'w', 'a', 'h', 'j'};
        for (int i = 0; i < due.length; i++) {
            Check.equal("ticket " + i, x.state(i), due[i]);
        }
    }

    @Says("12: Throws `IndexOutOfBoundsException` if there is no such ticket")
    static void stateOfNoTicket() {
        checkNoSuchTicket((x, ticket) -> x.state(ticket));
    }

    // ---- promises 13 and 14

    @Says({"13: Returns the probable cause of a ticket, as it is kept.", "13: Returns the cause."})
    static void causesFrom0To7() {
        DeskExchange x = Desk.promising(9);
        for (int i = 0; i < 8; i++) {
            String word = String.valueOf((char) ('a' + i));
            Desk.cause(x, 1, -1, word);
            Check.equal("the cause", x.cause(Desk.open(x, 0, word)), i);
        }
        for (int i = 0; i < 8; i++) {
            Check.equal("is kept", x.cause(i), i);
        }
    }

    @Says("13: Throws `IndexOutOfBoundsException` if there is no such ticket")
    static void causeOfNoTicket() {
        checkNoSuchTicket((x, ticket) -> x.cause(ticket));
    }

    @Says("13: Throws `NoSuchElementException` if it has none")
    static void causeOfOneWithoutIt() {
        DeskExchange x = Desk.inAllStates();
        for (int ticket : new int[] {2, 3, 6}) {
            Check.throwsJust("of " + ticket, NONE, () -> x.cause(ticket));
        }
        for (int ticket : new int[] {0, 1, 4, 5}) {
            Check.equal("of " + ticket, x.cause(ticket), 0);
        }
    }

    @Says({"14: Returns the same cause, found again from the text, and from the keywords and changes"
        + " that were there when the ticket was opened.", "14: Returns the cause."})
    static void onlyWhatWasThere() {
        DeskExchange x = Desk.promising(9);
        Desk.cause(x, 1, -1, "a");
        Desk.cause(x, 1, -1, "b");
        x.planChange(1, 0, 1, false);
        Desk.open(x, 0, "a c");
        Desk.open(x, 0, "b a");
        Desk.keyword(x, 0, "b");
        Desk.keyword(x, 1, "c");
        Desk.cause(x, 1, -1, "a");
        Desk.keyword(x, 2, "b");
        Desk.keyword(x, 2, "c");
        x.planChange(0, 0, 9, false);
        x.pass(1);
        Check.equal("0 of 1 and 1", x.causeFromLog(0), 0);
        Check.equal("1 of 1 and 2", x.causeFromLog(1), 1);
        Desk.openEach(x, "a c", "c");
        Check.equal("0 of 2, 1 and 2", x.causeFromLog(2), 0);
        Check.equal("0 of 1, 1 and 1", x.causeFromLog(3), 0);
        x.pass(8);
        Check.equal("also when the change has ended", x.causeFromLog(3), 0);
        Check.equal("1 of 0, 1 and 1", x.causeFromLog(Desk.open(x, 0, "c")), 1);
        for (int i = 0; i < 5; i++) {
            Check.equal("as it is kept", x.causeFromLog(i), x.cause(i));
        }
    }

    @Says("14: and changes that were there when the ticket was opened.")
    static void aChangeThatBeginsNow() {
        DeskExchange x = Desk.promising(9);
        x.addCause(1, -1);
        x.planChange(0, 1, 2, false);
        Desk.open(x, 0, "a");
        x.pass(1);
        Desk.open(x, 0, "a");
        x.pass(1);
        Desk.open(x, 0, "a");
        x.planChange(0, 2, 3, false);
        Check.throwsJust("ahead of its beginning", NONE, () -> x.causeFromLog(0));
        Check.equal("in its minute", x.causeFromLog(1), 0);
        Check.throwsJust("at its end, ahead of a new one", NONE, () -> x.causeFromLog(2));
        Check.equal("with the new one", x.causeFromLog(Desk.open(x, 0, "a")), 0);
    }

    @Says("14: Throws `IndexOutOfBoundsException` if there is no such ticket")
    static void causeFromLogOfNoTicket() {
        checkNoSuchTicket((x, ticket) -> x.causeFromLog(ticket));
    }

    @Says("14: Throws `NoSuchElementException` if it has none")
    static void causeFromLogOfOneWithoutIt() {
        DeskExchange x = Desk.inAllStates();
        Desk.keyword(x, 0, "else");
        for (int ticket : new int[] {2, 3, 6}) {
            Check.throwsJust("of " + ticket, NONE, () -> x.causeFromLog(ticket));
        }
        for (int ticket : new int[] {0, 1, 4, 5}) {
            Check.equal("of " + ticket, x.causeFromLog(ticket), 0);
        }
    }

    // ---- promises 15 and 16

    @Says({"15: Returns the likeness of the texts of two tickets.", "15: Returns the likeness."})
    static void likenessFrom0To20() {
        DeskExchange x = Desk.promising(9);
        String all = "a b c d e f g h i j k l m n o p q r s t";
        Desk.openEach(x, all, "u v w x y z", "t a t a", all);
        int[][] due = {{20, 0, 2, 20}, {0, 6, 0, 0}, {2, 0, 2, 2}, {20, 0, 2, 20}};
        for (int i = 0; i < due.length; i++) {
            for (int k = 0; k < due.length; k++) {
                Check.equal("likeness " + i + " " + k, x.likeness(i, k), due[i][k]);
            }
        }
    }

    @Says("15: Throws `IndexOutOfBoundsException` if there is no such ticket, for either")
    static void likenessOfNoTicket() {
        checkNoSuchTicket((x, ticket) -> x.likeness(ticket, 0));
        checkNoSuchTicket((x, ticket) -> x.likeness(0, ticket));
        checkNoSuchTicket((x, ticket) -> x.likeness(ticket, ticket));
    }

    @Says("16: Returns the other ticket, not solved, whose text is most like that of a ticket.")
    static void mostLikeIsAnotherAndNotSolved() {
        DeskExchange x = Desk.promising(9);
        Desk.cause(x, 1, -1, "fan");
        x.planChange(0, 0, 1, true);
        Desk.openEach(x, "fan a b", "fan a b c", "a b", "b", "x");
        Check.equal("the most like", x.mostLike(0), 1);
        Check.equal("a hushed one", x.mostLike(2), 0);
        x.pass(1);
        Check.equal("two are solved", Desk.states(x, 5), "ssooo");
        Check.equal("not a solved one", x.mostLike(0), 2);
        Check.equal("of an open one", x.mostLike(2), 3);
        Check.equal("not itself", x.mostLike(3), 2);
    }

    @Says("16: Returns the ticket, of several the one with the lowest number.")
    static void mostLikeOfSeveral() {
        DeskExchange x = Desk.promising(9);
        Desk.openEach(x, "a", "a b", "c a b", "b a", "a b");
        Check.equal("of 4, below and above", x.mostLike(4), 1);
        Check.equal("all above", x.mostLike(1), 2);
        Check.equal("the lowest of all", x.mostLike(0), 1);
    }

    @Says("16: Throws `IndexOutOfBoundsException` if there is no such ticket")
    static void mostLikeOfNoTicket() {
        checkNoSuchTicket((x, ticket) -> x.mostLike(ticket));
    }

    @Says("16: Throws `NoSuchElementException` if no other ticket that is not solved has a likeness of"
        + " at least 1")
    static void mostLikeNeedsALikenessOf1() {
        DeskExchange x = Desk.promising(9);
        Desk.cause(x, 1, -1, "fan");
        x.planChange(0, 0, 1, true);
        Desk.open(x, 0, "a");
        Check.throwsJust("no other ticket", NONE, () -> x.mostLike(0));
        Desk.open(x, 0, "b c");
        Check.throwsJust("the likeness 0", NONE, () -> x.mostLike(0));
        Desk.open(x, 0, "fan a");
        Check.equal("the likeness 1", x.mostLike(0), 2);
        x.pass(1);
        Check.throwsJust("one that is solved", NONE, () -> x.mostLike(0));
        Check.equal("for a solved one", x.mostLike(2), 0);
    }

    // ---- promises 17 and 18

    @Says({"17: Joins a ticket to a parent.",
        "17: Returns the number of tickets that are joined to the parent afterwards."})
    static void joinsUpTo39() {
        DeskExchange x = Desk.promising(9);
        for (int i = 0; i < 40; i++) {
            Desk.open(x, 0, "a");
        }
        for (int i = 0; i < 39; i++) {
            Check.equal("join", x.join(i, 39), i + 1);
            Check.equal("state", x.state(i), 'j');
        }
        x.addPerson(0, 0, 1440);
        x.assign(39, 0);
        Check.equal("all are solved", x.pass(30), 40);
    }

    @Says("17: Returns the number of tickets that are joined to the parent afterwards.")
    static void joinsToTheParentAlone() {
        DeskExchange x = Desk.promising(9);
        Desk.openEach(x, "a", "a", "a", "a", "a");
        Check.equal("one", x.join(1, 0), 1);
        Check.equal("one to another", x.join(2, 4), 1);
        Check.equal("two", x.join(3, 0), 2);
    }

    @Says("17: Throws `IndexOutOfBoundsException` if there is no such ticket, for either")
    static void joinOfNoTicket() {
        checkNoSuchTicket((x, ticket) -> x.join(ticket, 2));
        checkNoSuchTicket((x, ticket) -> x.join(2, ticket));
        checkNoSuchTicket((x, ticket) -> x.join(ticket, ticket));
    }

    @Says("17: Throws `IllegalArgumentException` if both are the same")
    static void joinToItself() {
        DeskExchange x = Desk.inAllStates();
        for (int i = 0; i < 7; i++) {
            int ticket = i;
            Check.throwsJust("in the state " + x.state(i), ARGUMENT, () -> x.join(ticket, ticket));
        }
    }

    @Says("17: Throws `IllegalStateException` if the ticket is not open,")
    static void joinsOpenOnesAlone() {
        DeskExchange x = Desk.inAllStates();
        Desk.openEach(x, "a", "b");
        for (int ticket : new int[] {0, 1, 3, 4, 5, 6}) {
            Check.throwsJust("in the state " + x.state(ticket), STATE, () -> x.join(ticket, 7));
        }
        Check.equal("an open one", x.join(8, 7), 1);
        Check.equal("none has changed", Desk.states(x, 9), "ssowahjoj");
    }

    @Says("17: has tickets that are joined to it,")
    static void parentIsNotJoined() {
        DeskExchange x = Desk.promising(9);
        Desk.openEach(x, "a", "b", "c");
        x.join(1, 0);
        Check.throwsJust("a parent", STATE, () -> x.join(0, 2));
        Check.equal("it stays open", x.state(0), 'o');
        Check.equal("the other may be joined", x.join(2, 0), 2);
    }

    @Says("17: or the parent is joined or solved")
    static void noJoinToAJoinedOrSolvedOne() {
        DeskExchange x = Desk.inAllStates();
        for (int i = 0; i < 4; i++) {
            Desk.open(x, 0, "a");
        }
        for (int parent : new int[] {0, 1, 6}) {
            Check.throwsJust("to one in the state " + x.state(parent), STATE, () -> x.join(7, parent));
        }
        Check.equal("to an open one", x.join(7, 2), 2);
        Check.equal("to one that is worked on", x.join(8, 3), 1);
        Check.equal("to an answered one", x.join(9, 4), 1);
        Check.equal("to a hushed one", x.join(10, 5), 1);
    }

    @Says({"18: Returns the parent of a ticket that is, or was until it was solved, joined.",
        "18: Returns the parent."})
    static void parentIsKept() {
        DeskExchange x = Desk.promising(9);
        Desk.cause(x, 1, -1, "fan");
        x.planChange(0, 0, 2, true);
        Desk.openEach(x, "a", "fan", "b");
        x.join(0, 1);
        x.join(2, 1);
        Check.equal("is joined", x.parentOf(0), 1);
        Check.equal("all are solved", x.pass(2), 3);
        Check.equal("was joined", x.parentOf(0), 1);
        Check.equal("was joined too", x.parentOf(2), 1);
    }

    @Says("18: Throws `IndexOutOfBoundsException` if there is no such ticket")
    static void parentOfNoTicket() {
        checkNoSuchTicket((x, ticket) -> x.parentOf(ticket));
    }

    @Says("18: Throws `NoSuchElementException` if it was never joined")
    static void neverJoined() {
        DeskExchange x = Desk.inAllStates();
        for (int ticket = 0; ticket < 6; ticket++) {
            int each = ticket;
            Check.throwsJust("in the state " + x.state(ticket), NONE, () -> x.parentOf(each));
        }
        Check.equal("a joined one", x.parentOf(6), 2);
    }

    // ---- promise 19

    /** A desk where so many tickets from 2 on are answered by the page with the trust 70. */
    private static DeskExchange answering(int count) {
        DeskExchange x = Desk.trusting();
        for (int i = 0; i < count; i++) {
            Desk.open(x, 0, "fan");
        }
        return x;
    }

    @Says("19: Tells whether the page has helped that answered a ticket. If it has, the ticket is"
        + " solved by a page, and the trust of the page increases by 5, up to 100;")
    static void hasHelped() {
        DeskExchange x = answering(8);
        int[] due = {75, 80, 85, 90, 95, 100, 100, 100};
        for (int i = 0; i < due.length; i++) {
            Check.equal("confirm", x.confirm(2 + i, true), true);
            Check.equal("the trust", x.trust(0), due[i]);
            Check.equal("the state", x.state(2 + i), 's');
            Check.equal("by a page", x.solvedBy(2 + i), 'g');
        }
    }

    @Says("19: otherwise the ticket becomes open, and the trust decreases by 10, down to 0.")
    static void hasNotHelped() {
        DeskExchange x = answering(11);
        int[] due = {60, 50, 40, 30, 20, 10, 0, 0};
        for (int i = 0; i < due.length; i++) {
            Check.equal("confirm", x.confirm(2 + i, false), false);
            Check.equal("the trust", x.trust(0), due[i]);
            Check.equal("the state", x.state(2 + i), 'o');
        }
        x.confirm(10, true);
        Check.equal("the trust by 5", x.trust(0), 5);
        x.confirm(11, false);
        Check.equal("down to 0 from 5", x.trust(0), 0);
        Check.equal("the other is answered still", x.state(12), 'a');
    }

    @Says("19: `hasHelped`: true if it has helped")
    static void hasHelpedOrNot() {
        DeskExchange x = answering(2);
        x.confirm(2, true);
        x.confirm(3, false);
        Check.equal("the states", Desk.states(x, 4), "ssso");
        Check.equal("the trust", x.trust(0), 65);
    }

    @Says("19: Returns true if the trust of the page is at least 70 afterwards.")
    static void atLeast70Afterwards() {
        DeskExchange x = answering(6);
        Check.equal("75", x.confirm(2, true), true);
        Check.equal("65", x.confirm(3, false), false);
        Check.equal("70, by 5", x.confirm(4, true), true);
        Check.equal("60", x.confirm(5, false), false);
        Check.equal("65, by 5", x.confirm(6, true), false);
        DeskExchange y = answering(3);
        y.confirm(2, true);
        y.confirm(3, true);
        Check.equal("70, from 80", y.confirm(4, false), true);
    }

    @Says("19: Throws `IndexOutOfBoundsException` if there is no such ticket")
    static void confirmNoTicket() {
        checkNoSuchTicket((x, ticket) -> x.confirm(ticket, true));
        checkNoSuchTicket((x, ticket) -> x.confirm(ticket, false));
    }

    @Says("19: Throws `IllegalStateException` if the ticket is not answered")
    static void confirmNotAnswered() {
        DeskExchange x = Desk.inAllStates();
        for (int ticket : new int[] {0, 1, 2, 3, 5, 6}) {
            Check.throwsJust("in the state " + x.state(ticket), STATE, () -> x.confirm(ticket, true));
            Check.throwsJust("in the state " + x.state(ticket), STATE, () -> x.confirm(ticket, false));
        }
        Check.equal("the trust", x.trust(0), 70);
        Check.equal("an answered one", x.confirm(4, true), true);
        Check.throwsJust("twice", STATE, () -> x.confirm(4, true));
    }

    // ---- promise 20

    @Says("20: Lets a person work on an open ticket.")
    static void assignBeginsWork() {
        DeskExchange x = Desk.promising(9);
        x.addPerson(0, 0, 1440);
        Desk.openEach(x, "a", "b");
        x.assign(1, 0);
        Check.equal("is worked on", Desk.states(x, 2), "ow");
        Check.equal("by the person", x.workOf(0), 1);
        Check.equal("from now on", x.minutesLeft(0), 30);
    }

    @Says("20: If its cause needs a part and none is reserved for it, one is reserved.")
    static void assignReservesTheLastPart() {
        DeskExchange x = Desk.promising(9);
        Desk.cause(x, 5, 0, "fan");
        Desk.cause(x, 5, -1, "key");
        x.addPerson(3, 0, 1440);
        Desk.openEach(x, "fan", "key");
        x.addStock(0, 1);
        x.assign(1, 0);
        Check.equal("none is needed", x.reserved(0), 0);
        x.letGo(0);
        Check.equal("with the last that is free", x.assign(0, 0), 5);
        Check.equal("is reserved", x.reserved(0) * 10 + x.free(0), 10);
        x.letGo(0);
        x.addStock(0, 1);
        x.assign(0, 0);
        Check.equal("no second one", x.reserved(0) * 10 + x.free(0), 11);
    }

    @Says("20: Returns the work minutes.")
    static void returnsTheWorkMinutes() {
        DeskExchange x = Desk.promising(9);
        int[] works = {1, 600, 29};
        x.addPerson(255, 0, 1440);
        for (int i = 0; i < works.length; i++) {
            String word = String.valueOf((char) ('a' + i));
            Desk.cause(x, works[i], -1, word);
            Desk.open(x, 0, word);
            Check.equal("of the cause", x.assign(i, 0), works[i]);
            x.letGo(0);
        }
        Desk.open(x, 0, "else");
        Check.equal("without a cause", x.assign(3, 0), 30);
    }

    @Says("20: Throws `IndexOutOfBoundsException` if there is no such ticket or no such person")
    static void assignNoTicketOrPerson() {
        checkNoSuchTicket((x, ticket) -> x.assign(ticket, 1));
        checkNoSuchTicket((x, ticket) -> x.assign(ticket, 0));
        DeskExchange x = Desk.promising(9);
        Desk.open(x, 0, "a");
        Check.eachThrows("without people", INDEX, new int[] {0, -1, 5, LEAST, MOST},
                person -> x.assign(0, person));
        x.addPerson(0, 0, 1440);
        Check.eachThrows("with one", INDEX, new int[] {-1, 1, 2, 6, LEAST, MOST},
                person -> x.assign(0, person));
        Check.equal("the last", x.assign(0, 0), 30);
    }

    @Says("20: Throws `IllegalStateException` if the ticket is not open,")
    static void assignNotOpen() {
        DeskExchange x = Desk.inAllStates();
        x.addPerson(255, 0, 1440);
        for (int ticket : new int[] {0, 1, 3, 4, 5, 6}) {
            Check.throwsJust("in the state " + x.state(ticket), STATE, () -> x.assign(ticket, 1));
        }
        Check.equal("an open one, also if it has joined ones", x.assign(2, 1), 30);
    }

    @Says("20: or the person works on a ticket")
    static void assignOneWhoWorks() {
        DeskExchange x = Desk.promising(9);
        x.addPerson(0, 5, 6);
        Desk.openEach(x, "a", "b");
        x.assign(0, 0);
        Check.throwsJust("works, out of the shift", STATE, () -> x.assign(1, 0));
        x.letGo(0);
        Check.equal("works on none", x.assign(1, 0), 30);
    }

    @Says("20: Throws `UnsupportedOperationException` if the person has not the skill for its cause,")
    static void assignWithoutTheSkill() {
        DeskExchange x = Desk.promising(9);
        Desk.cause(x, 1, -1, "a");
        Desk.cause(x, 1, -1, "b");
        x.addPerson(0b11111101, 0, 1440);
        x.addPerson(0b00000010, 0, 1440);
        Desk.openEach(x, "a", "b", "else");
        Check.throwsJust("all skills but this", UNABLE, () -> x.assign(1, 0));
        Check.throwsJust("another skill alone", UNABLE, () -> x.assign(0, 1));
        Check.equal("none has changed", Desk.states(x, 3), "ooo");
        Check.equal("this skill alone", x.assign(1, 1), 1);
        Check.equal("all skills but another", x.assign(0, 0), 1);
    }

    @Says("20: or a part is needed and none is free")
    static void assignWithoutAPart() {
        DeskExchange x = Desk.promising(9);
        Desk.cause(x, 1, 4, "fan");
        x.addPerson(255, 0, 1440);
        Desk.open(x, 0, "fan");
        x.addStock(3, 1);
        Check.throwsJust("none of the kind", UNABLE, () -> x.assign(0, 0));
        Check.equal("is open still", x.state(0), 'o');
        x.addStock(4, 1);
        Desk.open(x, 0, "fan");
        Check.throwsJust("reserved for another", UNABLE, () -> x.assign(0, 0));
        Check.throwsJust("works on none", NONE, () -> x.workOf(0));
        Check.equal("reserved for it", x.assign(1, 0), 1);
        x.pass(1);
        Check.throwsJust("used up", UNABLE, () -> x.assign(0, 0));
        x.addStock(4, 1);
        Check.equal("one is free", x.assign(0, 0), 1);
    }

    // ---- promise 21

    @Says("21: Ends the work of a person on a ticket, which becomes open; what was done is lost, and a"
        + " part stays reserved.")
    static void letGoLosesTheWork() {
        DeskExchange x = Desk.promising(9);
        Desk.cause(x, 5, 0, "fan");
        x.addPerson(1, 0, 1440);
        x.addPerson(1, 0, 1440);
        x.addStock(0, 1);
        Desk.open(x, 0, "fan");
        x.assign(0, 0);
        x.pass(4);
        x.letGo(0);
        Check.equal("is open", x.state(0), 'o');
        Check.throwsJust("works on none", NONE, () -> x.workOf(0));
        Check.equal("a part stays reserved", x.reserved(0) * 10 + x.free(0), 10);
        Check.equal("for another person", x.assign(0, 1), 5);
        Check.equal("what was done is lost", x.minutesLeft(1), 5);
        Check.equal("not solved in one minute", x.pass(4), 0);
        Check.equal("but in five", x.pass(1), 1);
    }

    @Says("21: Returns the number of minutes that were worked.")
    static void letGoReturnsTheMinutes() {
        DeskExchange x = Desk.promising(9);
        Desk.cause(x, 600, -1, "fan");
        x.addPerson(1, 3, 1440);
        Desk.open(x, 0, "fan");
        Check.equal("at once", x.assign(0, 0) + x.letGo(0), 600);
        int[] minutes = {3, 1, 599};
        int[] worked = {0, 1, 599};
        for (int i = 0; i < minutes.length; i++) {
            x.assign(0, 0);
            Check.equal("not solved", x.pass(minutes[i]), 0);
            Check.equal("worked until " + x.now(), x.letGo(0), worked[i]);
        }
    }

    @Says("21: Throws `IndexOutOfBoundsException` if there is no such person")
    static void letGoNoPerson() {
        DeskExchange x = new DeskExchange();
        Check.eachThrows("without people", INDEX, new int[] {0, -1, 5, LEAST, MOST}, x::letGo);
        DeskExchange y = Desk.inAllStates();
        Check.eachThrows("with one", INDEX, new int[] {-1, 1, 2, 6, LEAST, MOST}, y::letGo);
        Check.equal("the last", y.letGo(0), 0);
    }

    @Says("21: Throws `IllegalStateException` if the person does not work on a ticket")
    static void letGoOneWithoutWork() {
        DeskExchange x = Desk.promising(9);
        x.addPerson(0, 0, 1440);
        x.addPerson(0, 0, 1440);
        Check.throwsJust("never worked", STATE, () -> x.letGo(0));
        Desk.open(x, 0, "a");
        x.assign(0, 1);
        Check.throwsJust("another works", STATE, () -> x.letGo(0));
        Check.equal("the other", x.letGo(1), 0);
        Check.throwsJust("twice", STATE, () -> x.letGo(1));
        x.assign(0, 0);
        x.pass(30);
        Check.throwsJust("is done", STATE, () -> x.letGo(0));
    }

    // ---- promise 22

    @Says({"22: Returns by what a ticket was solved.",
        "22: Returns 'p' for a person, 'g' for a page, 'c' for a change."})
    static void solverLetters() {
        DeskExchange x = Desk.inAllStates();
        x.confirm(4, true);
        Check.equal("at the end of the change", x.pass(7), 1);
        char[] due = {'p', 'p', ' ', ' ', 'g', 'c', ' '};
        for (int i = 0; i < due.length; i++) {
            if (due[i] != ' ') {
                Check.equal("ticket " + i, x.solvedBy(i), due[i]);
            }
        }
    }

    @Says("22: Throws `IndexOutOfBoundsException` if there is no such ticket")
    static void solvedByOfNoTicket() {
        checkNoSuchTicket((x, ticket) -> x.solvedBy(ticket));
    }

    @Says("22: Throws `NoSuchElementException` if it is not solved")
    static void notSolved() {
        DeskExchange x = Desk.inAllStates();
        for (int ticket = 2; ticket < 7; ticket++) {
            int each = ticket;
            Check.throwsJust("in the state " + x.state(ticket), NONE, () -> x.solvedBy(each));
        }
    }

    // ---- promise 23

    @Says("23: Returns the open ticket whose promise has the fewest minutes left, which is less than 0"
        + " if it is broken.")
    static void fewestMinutesLeft() {
        DeskExchange x = Desk.promising(5);
        x.addCustomer(4);
        x.addCustomer(1);
        x.addPerson(0, 0, 1440);
        Desk.open(x, 0, "a");
        Desk.open(x, 1, "a");
        Check.equal("4 and not 5", x.nextTicket(), 1);
        x.pass(4);
        Desk.open(x, 2, "a");
        Check.equal("0 and not 1", x.nextTicket(), 1);
        x.assign(1, 0);
        Check.equal("1, the lowest of two", x.nextTicket(), 0);
        x.pass(2);
        Check.equal("-1, the lowest of two", x.nextTicket(), 0);
        x.letGo(0);
        Check.equal("-2", x.nextTicket(), 1);
        Desk.open(x, 2, "a");
        Check.equal("still -2, and not 1", x.nextTicket(), 1);
    }

    @Says("23: Returns the open ticket")
    static void nextIsOpen() {
        DeskExchange x = Desk.promising(5);
        Desk.cause(x, 1, -1, "fan");
        x.addPage(0);
        x.addPerson(1, 0, 1440);
        x.addCustomer(4000);
        Desk.raiseTrust(x, 0, 0, "fan");
        Desk.openEach(x, "fan", "else", "else");
        x.planChange(0, 2, 9, true);
        Desk.openEach(x, "fan");
        x.assign(3, 0);
        Desk.open(x, 1, "else");
        x.join(4, 3);
        Check.equal("of all states", Desk.states(x, 7), "ssawjho");
        Check.equal("the open one, with the most minutes left", x.nextTicket(), 6);
    }

    @Says("23: Returns the ticket, of several the one with the lowest number.")
    static void nextOfSeveral() {
        DeskExchange x = Desk.promising(5);
        x.addCustomer(3);
        x.addPerson(0, 0, 1440);
        Desk.open(x, 0, "a");
        x.pass(2);
        for (int i = 0; i < 3; i++) {
            Desk.open(x, 1, "a");
        }
        Check.equal("all have 3 left", x.nextTicket(), 0);
        x.assign(0, 0);
        Check.equal("the others", x.nextTicket(), 1);
    }

    @Says("23: Throws `NoSuchElementException` if no ticket is open")
    static void noneIsOpen() {
        DeskExchange x = new DeskExchange();
        Check.throwsJust("no ticket", NONE, () -> x.nextTicket());
        DeskExchange y = Desk.inAllStates();
        Check.equal("one is open", y.nextTicket(), 2);
        y.addPerson(0, 0, 1440);
        y.assign(2, 1);
        Check.equal("of all other states", Desk.states(y, 7), "sswwahj");
        Check.throwsJust("none is open", NONE, () -> y.nextTicket());
        y.letGo(0);
        Check.equal("one is open again", y.nextTicket(), 3);
    }
}

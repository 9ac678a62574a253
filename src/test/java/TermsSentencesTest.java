import java.util.NoSuchElementException;

/** The sentences of 'What it is' and 'Terms', each where its boundary lies. */
final class TermsSentencesTest {
    private static final Class<IllegalStateException> STATE = IllegalStateException.class;
    private static final Class<IndexOutOfBoundsException> INDEX = IndexOutOfBoundsException.class;
    private static final Class<NoSuchElementException> NONE = NoSuchElementException.class;
    private static final Class<UnsupportedOperationException> UNABLE =
            UnsupportedOperationException.class;

    private TermsSentencesTest() {
    }

    // ---- what it is, and what the terms begin with

    @Says("What it is: An object is used for at most 512 calls after it has been made;")
    static void call512IsAnswered() {
        DeskExchange x = Desk.promising(5000);
        for (int i = 0; i < 40; i++) {
            Check.equal("open", Desk.open(x, 0, "a"), i);
        }
        for (int call = 82; call <= 510; call++) {
            Check.equal("pass", x.pass(1), 0);
        }
        Check.equal("call 511", x.clockFromLog(39), 429);
        Check.equal("call 512", x.isConsistent(), true);
    }

    @Says({"Terms: Tickets are opened with a text, from which a probable cause is found; pages with"
        + " enough trust answer known causes by themselves; planned changes hush or raise causes;"
        + " people with skills and shifts work on tickets, with parts reserved for them; tickets"
        + " that belong together are joined and solved together; and each customer has a promise,"
        + " whose clock stops while the desk waits for others.",
        "Terms: Clocks and causes can be computed in two ways: as they are kept, and from the event"
        + " log."})
    static void allTogether() {
        DeskExchange x = Desk.promising(20);
        Desk.cause(x, 10, 0, "fan");
        x.addPage(0);
        x.addPerson(1, 0, 1440);
        x.addStock(0, 3);
        Desk.raiseTrust(x, 0, 0, "fan");
        Desk.open(x, 0, "the fan");
        x.planChange(0, 20, 30, true);
        Desk.openEach(x, "a fan", "else");
        x.join(4, 2);
        Check.equal("answered, hushed, joined", Desk.states(x, 5), "ssahj");
        Check.equal("a part is reserved", x.reserved(0), 1);
        Check.equal("the hushed one is solved", x.pass(10), 1);
        x.planChange(0, 30, 40, false);
        Desk.open(x, 0, "raised");
        x.confirm(2, false);
        x.assign(2, 0);
        Check.equal("solved together", x.pass(10), 2);
        int[] clocks = {10, 10, 10, 0, 10, 0};
        int[] causes = {0, 0, 0, 0, -1, 0};
        for (int i = 0; i < clocks.length; i++) {
            int ticket = i;
            Check.equal("the clock as kept", x.clock(i), clocks[i]);
            Check.equal("the clock from the log", x.clockFromLog(i), clocks[i]);
            String cause = causes[i] < 0 ? "throws.NoSuchElementException" : "" + causes[i];
            Check.equal("the cause as kept", Check.answerOf(() -> x.cause(ticket)), cause);
            Check.equal("the cause from the log", Check.answerOf(() -> x.causeFromLog(ticket)), cause);
        }
    }

    // ---- time

    @Says("Time: Time is counted in minutes, from 0 to 20000.")
    static void timeGoesFrom0To20000() {
        DeskExchange x = new DeskExchange();
        Check.equal("at first", x.now(), 0);
        Desk.passUntil(x, 19999);
        Check.equal("the last minute begins", x.now(), 19999);
        Check.equal("the last minute", x.pass(1), 0);
        Check.equal("at last", x.now(), 20000);
        Check.throwsJust("one more", STATE, () -> x.pass(1));
        Check.equal("still", x.now(), 20000);
    }

    @Says("Time: A day has 1440 minutes; the minute of the day is the time modulo 1440.")
    static void dayHas1440Minutes() {
        DeskExchange x = new DeskExchange();
        x.addPerson(0, 0, 1);
        x.addPerson(0, 1439, 1440);
        int[] times = {0, 1, 1438, 1439, 1440, 1441, 2879, 2880, 18719, 18720, 18721, 20000};
        int[] minutes = {0, 1, 1438, 1439, 0, 1, 1439, 0, 1439, 0, 1, 1280};
        for (int i = 0; i < times.length; i++) {
            Desk.passUntil(x, times[i]);
            Check.equal("the first minute of a day at " + times[i], x.isOnShift(0), minutes[i] == 0);
            Check.equal("the last minute of a day at " + times[i], x.isOnShift(1), minutes[i] == 1439);
        }
    }

    // ---- texts

    @Says("Texts: A text consists of words of letters from 'a' to 'z', which are separated by one or"
        + " more blanks;")
    static void blanksSeparateWords() {
        DeskExchange x = Desk.promising(9);
        Desk.openEach(x, "a z", "az", "a  z", "a" + " ".repeat(38) + "z", "az az");
        int[][] due = {{2, 0, 2, 2, 0}, {0, 1, 0, 0, 1}, {2, 0, 2, 2, 0}, {2, 0, 2, 2, 0},
            {0, 1, 0, 0, 1}};
        for (int i = 0; i < due.length; i++) {
            for (int k = 0; k < due.length; k++) {
                Check.equal("likeness " + i + " " + k, x.likeness(i, k), due[i][k]);
            }
        }
    }

    @Says("Texts: blanks at its ends do not matter.")
    static void blanksAtTheEndsDoNotMatter() {
        String[] texts = {"a", " a", "a ", " a ", "   a    ", " ".repeat(39) + "a", "a" + " ".repeat(39)};
        for (String text : texts) {
            DeskExchange x = Desk.promising(9);
            Check.equal("a keyword", Desk.cause(x, 1, -1, text), 0);
            Desk.openEach(x, "a", text);
            Check.equal("the same word", x.likeness(0, 1), 1);
            Check.equal("no word more", x.likeness(1, 1), 1);
            Check.equal("the keyword is a", x.cause(0), 0);
        }
    }

    @Says("Texts: The likeness of two texts is the number of different words that both have.")
    static void likenessCountsDifferentWords() {
        DeskExchange x = Desk.promising(9);
        String twenty = "a b c d e f g h i j k l m n o p q r s t";
        Desk.openEach(x, twenty, "a a a", "a a", "t t s", "aa", "u");
        int[] due = {20, 1, 1, 2, 0, 0};
        for (int i = 0; i < due.length; i++) {
            Check.equal("likeness", x.likeness(0, i), due[i]);
            Check.equal("likeness the other way", x.likeness(i, 0), due[i]);
        }
        Check.equal("the same word more than once in both", x.likeness(1, 2), 1);
    }

    // ---- causes

    @Says("Causes: There are at most 8 causes, numbered from 0.")
    static void eightCauses() {
        DeskExchange x = new DeskExchange();
        for (int i = 0; i < 8; i++) {
            Check.equal("addCause", x.addCause(1, -1), i);
        }
        Check.throwsJust("a ninth", STATE, () -> x.addCause(1, -1));
        Check.throwsJust("no ninth is there", INDEX, () -> x.addPage(8));
        Check.equal("the eighth is there", x.addPage(7), 0);
    }

    @Says("Causes: A cause has up to 3 keywords, work minutes, and perhaps a kind of part that is"
        + " needed.")
    static void threeKeywords() {
        DeskExchange x = Desk.promising(9);
        x.addCause(1, -1);
        x.addCause(7, 4);
        x.addStock(4, 1);
        x.addPerson(255, 0, 1440);
        Check.equal("one", Desk.keyword(x, 1, "a"), 1);
        Check.equal("two", Desk.keyword(x, 1, "b"), 2);
        Check.equal("three", Desk.keyword(x, 1, "c"), 3);
        Check.throwsJust("four", STATE, () -> Desk.keyword(x, 1, "d"));
        Desk.openEach(x, "a", "b", "c", "d");
        for (int i = 0; i < 3; i++) {
            Check.equal("each is a keyword", x.cause(i), 1);
        }
        Check.throwsJust("the fourth is none", NONE, () -> x.cause(3));
        Check.equal("the part", x.reserved(4), 1);
        Check.equal("the work minutes", x.assign(0, 0), 7);
    }

    @Says("Causes: The score of a cause for a text is the number of its keywords that are words of"
        + " the text")
    static void scoreCountsKeywords() {
        DeskExchange x = Desk.promising(9);
        Desk.cause(x, 1, -1, "a");
        Desk.keyword(x, 0, "b");
        Desk.keyword(x, 0, "c");
        Desk.cause(x, 1, -1, "d");
        Desk.keyword(x, 1, "e");
        Desk.keyword(x, 1, "f");
        String[] texts = {"a d e", "a b d e f", "a b c d e f", "a a a d e", "f a x y z", "f"};
        int[] due = {1, 1, 0, 1, 0, 1};
        for (int i = 0; i < texts.length; i++) {
            Check.equal("cause of " + texts[i], x.cause(Desk.open(x, 0, texts[i])), due[i]);
        }
    }

    @Says("Causes: and 1 more if a raising change of this cause is going on.")
    static void scoreIsRaisedByOne() {
        DeskExchange x = Desk.promising(9);
        Desk.cause(x, 1, -1, "a");
        Desk.keyword(x, 0, "b");
        Desk.cause(x, 1, -1, "c");
        x.planChange(1, 1, 3, false);
        x.planChange(1, 1, 3, false);
        String[] texts = {"a b c", "a c", "b", "x"};
        int[][] due = {{0, 0, 0, -1}, {0, 1, 0, 1}, {0, 1, 0, 1}, {0, 0, 0, -1}};
        for (int time = 0; time < due.length; time++) {
            for (int i = 0; i < texts.length; i++) {
                int ticket = Desk.open(x, 0, texts[i]);
                Check.equal("cause of " + texts[i] + " at " + time,
                        Check.answerOf(() -> x.cause(ticket)),
                        due[time][i] < 0 ? "throws.NoSuchElementException" : "" + due[time][i]);
            }
            x.pass(1);
        }
    }

    @Says("Causes: and 1 more if a raising change of this cause is going on.")
    static void hushingRaisesNothing() {
        DeskExchange x = Desk.promising(9);
        x.addCause(1, -1);
        x.planChange(0, 0, 9, true);
        Desk.open(x, 0, "x");
        Check.throwsJust("no cause", NONE, () -> x.cause(0));
        Check.equal("so it is not hushed", x.state(0), 'o');
    }

    @Says("Causes: The probable cause of a ticket is found when it is opened, and does not change:")
    static void causeDoesNotChange() {
        DeskExchange x = Desk.promising(9);
        Desk.cause(x, 1, -1, "a");
        Desk.openEach(x, "a b c", "b");
        Desk.cause(x, 1, -1, "b");
        Desk.keyword(x, 1, "c");
        x.planChange(1, 0, 9, false);
        x.pass(1);
        Check.equal("the first as kept", x.cause(0), 0);
        Check.equal("the first from the log", x.causeFromLog(0), 0);
        Check.throwsJust("none as kept", NONE, () -> x.cause(1));
        Check.throwsJust("none from the log", NONE, () -> x.causeFromLog(1));
        Check.equal("a later one", x.cause(Desk.open(x, 0, "a b c")), 1);
    }

    @Says("Causes: the cause with the greatest score, if this is at least 1; of several, the one with"
        + " the lowest number.")
    static void greatestScoreOfAtLeast1() {
        DeskExchange x = Desk.promising(9);
        x.addCause(1, -1);
        for (String word : new String[] {"b", "a", "a", "b"}) {
            Desk.cause(x, 1, -1, word);
        }
        Desk.keyword(x, 4, "c");
        String[] texts = {"a", "b", "a b", "b c", "a b c", "c"};
        int[] due = {2, 1, 1, 4, 4, 4};
        for (int i = 0; i < texts.length; i++) {
            Check.equal("cause of " + texts[i], x.cause(Desk.open(x, 0, texts[i])), due[i]);
        }
        Desk.open(x, 0, "x");
        Check.throwsJust("the score 0", NONE, () -> x.cause(texts.length));
    }

    @Says("Causes: A ticket without a probable cause has none.")
    static void noCause() {
        DeskExchange x = Desk.promising(9);
        Desk.open(x, 0, "a");
        x.addCause(1, -1);
        Desk.open(x, 0, "a");
        for (int i = 0; i < 2; i++) {
            int ticket = i;
            Check.throwsJust("as kept", NONE, () -> x.cause(ticket));
            Check.throwsJust("from the log", NONE, () -> x.causeFromLog(ticket));
        }
    }

    // ---- changes

    @Says("Changes: There are at most 6 changes, numbered from 0.")
    static void sixChanges() {
        DeskExchange x = new DeskExchange();
        x.addCause(1, -1);
        for (int i = 0; i < 6; i++) {
            Check.equal("planChange", x.planChange(0, 0, 1, i % 2 == 0), i);
        }
        Check.throwsJust("a seventh", STATE, () -> x.planChange(0, 0, 1, true));
        Check.throwsJust("no seventh is there", INDEX, () -> x.failChange(6));
        Check.equal("the sixth is there", x.failChange(5), true);
        x.pass(1);
        Check.throwsJust("a seventh when all have ended", STATE, () -> x.planChange(0, 1, 2, true));
    }

    @Says("Changes: A change has a cause, and goes on from its beginning on until ahead of its end.")
    static void changeGoesOn() {
        DeskExchange x = Desk.promising(9);
        Desk.cause(x, 1, -1, "key");
        x.addCause(1, -1);
        x.planChange(0, 3, 5, true);
        x.planChange(1, 3, 5, false);
        boolean[] due = {false, false, false, true, true, false, false};
        for (int time = 0; time < due.length; time++) {
            int raised = Desk.open(x, 0, "else");
            Check.equal("raised at " + time, Check.answerOf(() -> x.cause(raised)),
                    due[time] ? "1" : "throws.NoSuchElementException");
            Check.equal("hushed at " + time, x.state(Desk.open(x, 0, "key")), due[time] ? 'h' : 'o');
            x.pass(1);
        }
    }

    @Says("Changes: A change has a cause, and goes on from its beginning on until ahead of its end.")
    static void changeOfOneMinuteAt0() {
        DeskExchange x = Desk.promising(9);
        Desk.cause(x, 1, -1, "key");
        x.planChange(0, 0, 1, true);
        Desk.open(x, 0, "key");
        Check.equal("hushed at its beginning", x.state(0), 'h');
        Check.equal("solved at its end", x.pass(1), 1);
        Check.equal("not hushed at its end", x.state(Desk.open(x, 0, "key")), 'o');
    }

    @Says("Changes: It raises or hushes its cause as long as it goes on, also if it has failed.")
    static void failedChangeGoesOn() {
        DeskExchange x = Desk.promising(9);
        Desk.cause(x, 1, -1, "key");
        x.addCause(1, -1);
        x.planChange(0, 1, 3, true);
        x.planChange(1, 1, 3, false);
        x.failChange(0);
        x.pass(1);
        x.failChange(1);
        for (int time = 1; time < 4; time++) {
            int raised = Desk.open(x, 0, "else");
            Check.equal("raised at " + time, Check.answerOf(() -> x.cause(raised)),
                    time < 3 ? "1" : "throws.NoSuchElementException");
            Check.equal("hushed at " + time, x.state(Desk.open(x, 0, "key")), time < 3 ? 'h' : 'o');
            x.pass(1);
        }
    }

    // ---- parts and pages

    @Says("Parts: There are 5 kinds of parts, numbered from 0, with a stock of each, 0 at first.")
    static void fiveKinds() {
        DeskExchange x = new DeskExchange();
        for (int part = 0; part < 5; part++) {
            Check.equal("free at first", x.free(part), 0);
            Check.equal("reserved at first", x.reserved(part), 0);
        }
        for (int part = 0; part < 5; part++) {
            Check.equal("a stock of each", x.addStock(part, part + 1), part + 1);
        }
        for (int part = 0; part < 5; part++) {
            Check.equal("free of each", x.free(part), part + 1);
        }
        Check.throwsJust("no sixth kind", INDEX, () -> x.free(5));
        Check.throwsJust("none ahead of the first", INDEX, () -> x.free(-1));
    }

    @Says("Parts: A part of the stock is free unless it is reserved.")
    static void freeUnlessReserved() {
        DeskExchange x = Desk.promising(9);
        Desk.cause(x, 1, 0, "fan");
        x.addStock(0, 2);
        int[][] due = {{2, 0}, {1, 1}, {0, 2}, {0, 2}};
        for (int i = 0; i < due.length; i++) {
            Check.equal("free", x.free(0), due[i][0]);
            Check.equal("reserved", x.reserved(0), due[i][1]);
            Desk.open(x, 0, "fan");
        }
    }

    @Says("Pages: There are at most 8 pages, numbered from 0.")
    static void eightPages() {
        DeskExchange x = new DeskExchange();
        for (int i = 0; i < 8; i++) {
            x.addCause(1, -1);
        }
        for (int i = 0; i < 8; i++) {
            Check.equal("addPage", x.addPage(7 - i), i);
        }
        Check.equal("the eighth is there", x.trust(7), 50);
        Check.throwsJust("no ninth is there", INDEX, () -> x.trust(8));
    }

    @Says("Pages: A page has a cause, which no other page has,")
    static void onePageOfACause() {
        DeskExchange x = Desk.trusting();
        Desk.cause(x, 1, -1, "key");
        Check.equal("a page of another cause", x.addPage(1), 1);
        Check.throwsJust("a second page", STATE, () -> x.addPage(0));
        Check.throwsJust("a second page of the other", STATE, () -> x.addPage(1));
        Desk.openEach(x, "fan", "key");
        Check.equal("the page answers its cause alone", Desk.states(x, 4), "ssao");
    }

    @Says("Pages: and a trust from 0 to 100, initially 50.")
    static void trustFrom0To100() {
        DeskExchange x = Desk.trusting();
        for (int i = 2; i < 10; i++) {
            Desk.open(x, 0, "fan");
        }
        for (int i = 2; i < 9; i++) {
            x.confirm(i, false);
        }
        Check.equal("as little as 0", x.trust(0), 0);
        x.confirm(9, false);
        Check.equal("not less", x.trust(0), 0);
        DeskExchange y = Desk.trusting();
        for (int i = 2; i < 10; i++) {
            Desk.open(y, 0, "fan");
        }
        for (int i = 2; i < 8; i++) {
            y.confirm(i, true);
        }
        Check.equal("as much as 100", y.trust(0), 100);
        y.confirm(8, true);
        Check.equal("not more", y.trust(0), 100);
        y.addCause(1, -1);
        y.addPage(1);
        Check.equal("initially", y.trust(1), 50);
    }

    // ---- opening

    @Says("Opening: There are at most 40 tickets, numbered from 0.")
    static void fortyTickets() {
        DeskExchange x = Desk.promising(9);
        for (int i = 0; i < 40; i++) {
            Check.equal("open", Desk.open(x, 0, "a"), i);
        }
        Check.throwsJust("a 41st", STATE, () -> Desk.open(x, 0, "a"));
        Check.equal("the 40th is there", x.state(39), 'o');
        Check.throwsJust("no 41st is there", INDEX, () -> x.state(40));
    }

    @Says("Opening: There are at most 40 tickets, numbered from 0.")
    static void solvedTicketsCount() {
        DeskExchange x = Desk.promising(9);
        Desk.cause(x, 1, -1, "a");
        x.planChange(0, 0, 1, true);
        for (int i = 0; i < 40; i++) {
            Desk.open(x, 0, "a");
        }
        Check.equal("all are solved", x.pass(1), 40);
        Check.throwsJust("a 41st", STATE, () -> Desk.open(x, 0, "a"));
    }

    @Says("Opening: When a ticket is opened whose probable cause needs a part, one is reserved for it"
        + " if one is free.")
    static void oneIsReservedIfOneIsFree() {
        DeskExchange x = Desk.promising(9);
        Desk.cause(x, 1, 0, "fan");
        Desk.cause(x, 1, -1, "key");
        x.addStock(1, 9);
        Desk.open(x, 0, "fan");
        Check.equal("none is free", x.reserved(0), 0);
        x.addStock(0, 1);
        Desk.openEach(x, "key", "else");
        Check.equal("none is needed", x.reserved(0), 0);
        Desk.open(x, 0, "fan");
        Check.equal("the last that is free", x.reserved(0), 1);
        Desk.open(x, 0, "fan");
        Check.equal("none is free any more", x.reserved(0), 1);
        Check.equal("none of another kind", x.reserved(1), 0);
    }

    @Says("Opening: When a ticket is opened whose probable cause needs a part, one is reserved for it"
        + " if one is free.")
    static void alsoIfHushedOrAnswered() {
        DeskExchange x = Desk.promising(9);
        Desk.cause(x, 1, 3, "fan");
        x.addPage(0);
        x.addPerson(1, 0, 1440);
        x.addStock(3, 4);
        Desk.raiseTrust(x, 0, 0, "fan");
        Check.equal("two are used up", x.free(3), 2);
        Desk.open(x, 0, "fan");
        x.planChange(0, 2, 9, true);
        Desk.open(x, 0, "fan");
        Check.equal("answered and hushed", Desk.states(x, 4), "ssah");
        Check.equal("one for each", x.reserved(3), 2);
    }

    @Says("Opening: Then the ticket is hushed if a hushing change of this cause is going on,")
    static void hushedByItsCauseAlone() {
        DeskExchange x = Desk.promising(9);
        Desk.cause(x, 1, -1, "fan");
        Desk.cause(x, 1, -1, "key");
        x.planChange(1, 0, 2, true);
        x.planChange(0, 1, 2, true);
        x.planChange(0, 0, 2, false);
        Desk.keyword(x, 1, "lock");
        Desk.openEach(x, "fan", "key lock");
        Check.equal("of its cause, and hushing", Desk.states(x, 2), "oh");
    }

    @Says("Opening: by the one with the lowest number;")
    static void hushedByTheLowest() {
        DeskExchange x = Desk.promising(9);
        Desk.cause(x, 1, -1, "fan");
        x.planChange(0, 2, 3, true);
        x.planChange(0, 0, 6, true);
        x.planChange(0, 0, 4, true);
        Desk.open(x, 0, "fan");
        x.failChange(2);
        Check.equal("not by the second", x.pass(4), 0);
        Check.equal("still hushed", x.state(0), 'h');
        Check.equal("by the first that goes on", x.pass(2), 1);
    }

    @Says("Opening: otherwise it is answered if there is a page of this cause whose trust is at least"
        + " 70; otherwise it is open.")
    static void answeredFrom70On() {
        DeskExchange x = Desk.trusting();
        Desk.cause(x, 1, -1, "key");
        Desk.openEach(x, "fan", "fan", "key", "else");
        Check.equal("the trust 70", Desk.states(x, 6), "ssaaoo");
        x.confirm(2, false);
        x.confirm(3, true);
        Check.equal("the trust", x.trust(0), 65);
        Check.equal("the trust 65", x.state(Desk.open(x, 0, "fan")), 'o');
        x.assign(6, 0);
        x.pass(1);
        Check.equal("the trust 75", x.state(Desk.open(x, 0, "fan")), 'a');
    }

    @Says("Opening: Then the ticket is hushed if a hushing change of this cause is going on, by the"
        + " one with the lowest number; otherwise it is answered")
    static void hushedAheadOfAnswered() {
        DeskExchange x = Desk.trusting();
        x.planChange(0, 3, 4, true);
        char[] due = {'a', 'h', 'a'};
        for (char state : due) {
            Check.equal("at " + x.now(), x.state(Desk.open(x, 0, "fan")), state);
            x.pass(1);
        }
    }

    // ---- states

    @Says("States: A ticket is open, worked on, answered, hushed, joined or solved.")
    static void sixStates() {
        Check.equal("each state", Desk.states(Desk.inAllStates(), 7), "ssowahj");
    }

    @Says("States: Its clock runs in each minute in which it is open or worked on;")
    static void clockRunsIfOpenOrWorkedOn() {
        DeskExchange x = Desk.inAllStates();
        int[] ahead = {1, 1, 0, 0, 0, 0, 0};
        int[] runs = {0, 0, 1, 1, 0, 0, 1};
        for (int minute = 0; minute < 4; minute++) {
            for (int i = 0; i < runs.length; i++) {
                Check.equal("ticket " + i, x.clock(i), ahead[i] + minute * runs[i]);
                Check.equal("ticket " + i, x.clockFromLog(i), ahead[i] + minute * runs[i]);
            }
            x.pass(1);
        }
    }

    @Says("States: the clock of a joined ticket runs in each minute in which that of its parent runs.")
    static void clockOfAJoinedOne() {
        DeskExchange x = Desk.inAllStates();
        x.addPerson(255, 0, 1440);
        Desk.openEach(x, "x", "y", "z");
        x.join(7, 3);
        x.join(8, 4);
        x.join(9, 5);
        x.failChange(0);
        x.pass(3);
        checkClocks(x, new int[] {3, 3, 0, 0});
        x.confirm(4, false);
        x.pass(4);
        checkClocks(x, new int[] {7, 7, 4, 0});
        Check.equal("the failed change has ended", x.state(5), 'o');
        x.pass(1);
        checkClocks(x, new int[] {8, 8, 5, 1});
        x.assign(4, 1);
        Check.equal("solved with its parent", x.pass(1), 2);
        x.pass(1);
        checkClocks(x, new int[] {10, 10, 6, 3});
    }

    @Says("States: the clock of a joined ticket runs in each minute in which that of its parent runs.")
    static void clockOfTicket0JoinedToALaterOne() {
        DeskExchange x = Desk.promising(9);
        Desk.cause(x, 3, -1, "fan");
        x.planChange(0, 0, 3, true);
        x.failChange(0);
        Desk.openEach(x, "else", "fan");
        x.join(0, 1);
        x.pass(3);
        Check.equal("it stands while the parent is hushed", x.clock(0), 0);
        x.pass(2);
        for (int i = 0; i < 2; i++) {
            Check.equal("it runs with the parent", x.clock(i), 2);
            Check.equal("it runs with the parent in the log", x.clockFromLog(i), 2);
        }
    }

    /** The clocks of the tickets 6 to 9. */
    private static void checkClocks(DeskExchange x, int[] due) {
        for (int i = 0; i < due.length; i++) {
            Check.equal("clock of " + (6 + i), x.clock(6 + i), due[i]);
            Check.equal("clock from the log of " + (6 + i), x.clockFromLog(6 + i), due[i]);
        }
    }

    @Says("States: A promise is broken if the clock of the ticket is greater than the promised minutes"
        + " of its customer.")
    static void brokenIfGreater() {
        DeskExchange x = Desk.promising(3);
        x.addCustomer(1);
        Desk.open(x, 0, "a");
        Desk.open(x, 1, "a");
        boolean[][] due = {{false, false}, {false, false}, {false, true}, {false, true}, {true, true}};
        for (int clock = 0; clock < due.length; clock++) {
            Check.equal("3 promised at " + clock, x.isBroken(0), due[clock][0]);
            Check.equal("1 promised at " + clock, x.isBroken(1), due[clock][1]);
            x.pass(1);
        }
    }

    // ---- work

    @Says("Work: There are at most 6 people, numbered from 0.")
    static void sixPeople() {
        DeskExchange x = new DeskExchange();
        for (int i = 0; i < 6; i++) {
            Check.equal("addPerson", x.addPerson(0, 0, 1 + i), i);
        }
        Check.throwsJust("a seventh", STATE, () -> x.addPerson(0, 0, 1));
        Check.equal("the sixth is there", x.isOnShift(5), true);
        Check.throwsJust("no seventh is there", INDEX, () -> x.isOnShift(6));
    }

    @Says("Work: A person has a set of causes as skills,")
    static void skillsAreASet() {
        DeskExchange x = Desk.promising(9);
        for (int i = 0; i < 8; i++) {
            String word = String.valueOf((char) ('a' + i));
            Desk.cause(x, 1, -1, word);
            Desk.open(x, 0, word);
        }
        x.addPerson(0b10000001, 0, 1440);
        for (int i = 0; i < 8; i++) {
            int ticket = i;
            if (i == 0 || i == 7) {
                Check.equal("has the skill " + i, x.assign(i, 0), 1);
                x.letGo(0);
            } else {
                Check.throwsJust("has not the skill " + i, UNABLE, () -> x.assign(ticket, 0));
            }
        }
    }

    @Says("Work: and a shift from a minute of the day on until ahead of another one, which is later on"
        + " the same day.")
    static void shiftOfADay() {
        DeskExchange x = new DeskExchange();
        x.addPerson(0, 2, 4);
        for (int day = 0; day < 3; day++) {
            boolean[] due = {false, false, true, true, false};
            for (int minute = 0; minute < due.length; minute++) {
                Desk.passUntil(x, 1440 * day + minute);
                Check.equal("at " + x.now(), x.isOnShift(0), due[minute]);
            }
        }
    }

    @Says("Work: A person who works on a ticket works in each minute of the shift; when the number of"
        + " these minutes reaches the work minutes of the cause, the ticket is solved by a person.")
    static void worksInTheShift() {
        DeskExchange x = Desk.promising(9);
        Desk.cause(x, 3, -1, "fan");
        x.addPerson(1, 1, 3);
        Desk.open(x, 0, "fan");
        x.assign(0, 0);
        int[] left = {3, 3, 2, 1, 1};
        for (int minute = 0; minute < left.length; minute++) {
            Check.equal("left at " + minute, x.minutesLeft(0), left[minute]);
            Check.equal("not solved", x.pass(1), 0);
        }
        Desk.passUntil(x, 1441);
        Check.equal("ahead of the next shift", x.state(0), 'w');
        Check.equal("solved in its first minute", x.pass(1), 1);
        Check.equal("by a person", x.solvedBy(0), 'p');
        Check.equal("at its end", x.clock(0), 1442);
    }

    @Says("Work: For a ticket without a cause, the work takes 30 minutes, no skill and no part.")
    static void workWithoutACause() {
        DeskExchange x = Desk.promising(9);
        Desk.cause(x, 1, 0, "fan");
        x.addPerson(0, 0, 1440);
        Desk.open(x, 0, "else");
        Check.equal("no skill and no part", x.assign(0, 0), 30);
        Check.equal("29 minutes", x.pass(29), 0);
        Check.equal("one is left", x.minutesLeft(0), 1);
        Check.equal("30 minutes", x.pass(1), 1);
    }

    // ---- solving

    @Says("Solving: When a ticket is solved by a person, its reserved part is used up;")
    static void partIsUsedUp() {
        DeskExchange x = Desk.promising(9);
        Desk.cause(x, 1, 0, "fan");
        x.addPerson(1, 0, 1440);
        x.addStock(0, 2);
        Desk.open(x, 0, "fan");
        x.assign(0, 0);
        x.pass(1);
        Check.equal("the other is free", x.free(0), 1);
        Check.equal("none is reserved", x.reserved(0), 0);
        Check.equal("one less in the stock", x.addStock(0, 1), 2);
    }

    @Says("Solving: when it is solved otherwise, the part becomes free.")
    static void partBecomesFree() {
        DeskExchange x = Desk.promising(9);
        Desk.cause(x, 1, 0, "fan");
        x.addPage(0);
        x.addPerson(1, 0, 1440);
        x.addStock(0, 4);
        Desk.raiseTrust(x, 0, 0, "fan");
        Desk.open(x, 0, "fan");
        x.planChange(0, 2, 3, true);
        Desk.open(x, 0, "fan");
        Check.equal("reserved", x.reserved(0), 2);
        x.confirm(2, true);
        Check.equal("by a page", x.free(0) * 10 + x.reserved(0), 11);
        x.pass(1);
        Check.equal("by a change", x.free(0) * 10 + x.reserved(0), 20);
    }

    @Says("Solving: When a ticket with a cause is solved by a person who works on it, the trust of the"
        + " page of this cause, if there is one, increases by 10, up to 100.")
    static void trustIncreasesUpTo100() {
        DeskExchange x = Desk.promising(9);
        Desk.cause(x, 1, -1, "fan");
        x.addPage(0);
        x.addPerson(1, 0, 1440);
        for (int i = 0; i < 8; i++) {
            Desk.open(x, 0, "fan");
        }
        int[] due = {60, 70, 80, 90, 100, 100, 100, 100};
        for (int i = 0; i < due.length; i++) {
            x.assign(i, 0);
            Check.equal("solved", x.pass(1), 1);
            Check.equal("trust", x.trust(0), due[i]);
        }
    }

    @Says("Solving: the trust of the page of this cause, if there is one, increases by 10, up to 100.")
    static void trustFrom95() {
        DeskExchange x = Desk.trusting();
        for (int i = 0; i < 6; i++) {
            Desk.open(x, 0, "fan");
        }
        x.confirm(2, false);
        for (int i = 3; i < 8; i++) {
            x.confirm(i, true);
        }
        Check.equal("ahead", x.trust(0), 85);
        x.planChange(0, 2, 3, true);
        x.failChange(0);
        Desk.open(x, 0, "fan");
        x.assign(2, 0);
        x.pass(1);
        Check.equal("by 10", x.trust(0), 95);
        x.assign(8, 0);
        x.pass(1);
        Check.equal("up to 100", x.trust(0), 100);
    }

    @Says("Solving: the trust of the page of this cause, if there is one, increases by 10, up to 100.")
    static void noPageOrNoCause() {
        DeskExchange x = Desk.promising(9);
        Desk.cause(x, 1, -1, "fan");
        x.addCause(1, -1);
        x.addPage(1);
        x.addPerson(1, 0, 1440);
        Desk.openEach(x, "fan", "else");
        x.assign(0, 0);
        Check.equal("without a page", x.pass(1), 1);
        x.assign(1, 0);
        Check.equal("without a cause", x.pass(30), 1);
        Check.equal("no other page", x.trust(0), 50);
    }

    @Says("Solving: When a ticket is solved, all tickets that are joined to it are solved in the same"
        + " way, and their parts become free.")
    static void joinedAreSolvedInTheSameWay() {
        DeskExchange x = Desk.promising(99);
        Desk.cause(x, 1, 0, "fan");
        Desk.cause(x, 1, 1, "key");
        x.addPage(0);
        x.addPage(1);
        x.addPerson(3, 0, 1440);
        x.addStock(0, 9);
        x.addStock(1, 6);
        Desk.raiseTrust(x, 0, 0, "fan");
        Desk.openEach(x, "fan", "key", "key");
        x.planChange(0, 2, 4, true);
        Desk.openEach(x, "fan", "key", "key", "key", "key", "key");
        Check.equal("parts that are reserved", x.reserved(0) * 10 + x.reserved(1), 26);
        joinAndSolve(x);
        Check.equal("none is reserved", x.reserved(0) + x.reserved(1), 0);
        Check.equal("none of this kind is used up", x.free(0), 7);
        Check.equal("the one of the ticket that was worked on is used up", x.free(1), 5);
        Check.equal("trust by what was worked on", x.trust(1), 60);
        char[] due = {'g', 'g', 'g', 'c', 'c', 'c', 'p', 'p', 'p'};
        for (int i = 0; i < due.length; i++) {
            Check.equal("ticket " + (2 + i), x.solvedBy(2 + i), due[i]);
        }
    }

    /** The tickets 2, 5 and 8 with two joined ones each: by a page, a change and a person. */
    private static void joinAndSolve(DeskExchange x) {
        for (int parent = 2; parent <= 8; parent += 3) {
            Check.equal("one joined", x.join(parent + 1, parent), 1);
            Check.equal("two joined", x.join(parent + 2, parent), 2);
        }
        x.confirm(2, true);
        x.assign(8, 0);
        Check.equal("three by the person", x.pass(1), 3);
        Check.equal("three by the change", x.pass(1), 3);
    }

    // ---- minutes

    @Says("Minutes: In each minute, clocks run and people work first; then the time increases by 1;"
        + " then, in the order of their numbers, each change whose end has come ends: if it has not"
        + " failed, the tickets that it hushed are solved by the change; otherwise they become open.")
    static void orderOfAMinute() {
        DeskExchange x = Desk.promising(9);
        Desk.cause(x, 2, -1, "fan");
        Desk.cause(x, 2, -1, "key");
        x.addPerson(3, 1, 3);
        x.planChange(0, 0, 3, true);
        x.planChange(1, 0, 3, true);
        Desk.openEach(x, "fan", "key", "else");
        x.failChange(1);
        x.pass(1);
        x.planChange(0, 1, 3, false);
        Desk.openEach(x, "fan", "x y");
        Check.equal("hushed as raised", Desk.states(x, 5), "hhohh");
        x.assign(2, 0);
        Check.equal("ahead of the end", x.pass(1), 0);
        Check.equal("three are solved at the end", x.pass(1), 3);
        Check.equal("what failed is open", Desk.states(x, 5), "sowss");
        Check.equal("by the change", x.solvedBy(3), 'c');
        Check.equal("worked in the last minute of the shift", x.minutesLeft(0), 28);
        int[] clocks = {0, 0, 3, 0, 0};
        for (int i = 0; i < clocks.length; i++) {
            Check.equal("no clock runs at the end", x.clock(i), clocks[i]);
        }
        x.pass(1);
        Check.equal("it runs in the next minute", x.clock(1), 1);
    }

    @Says("Minutes: In each minute, clocks run and people work first;")
    static void lastMinuteOfWorkCounts() {
        DeskExchange x = Desk.promising(9);
        Desk.cause(x, 2, -1, "fan");
        x.addPerson(1, 0, 1440);
        Desk.openEach(x, "fan", "else");
        x.join(1, 0);
        x.assign(0, 0);
        Check.equal("both are solved", x.pass(2), 2);
        for (int i = 0; i < 2; i++) {
            Check.equal("clock", x.clock(i), 2);
            Check.equal("clock from the log", x.clockFromLog(i), 2);
        }
    }

    @Says("Minutes: each change whose end has come ends:")
    static void endAt20000() {
        DeskExchange x = Desk.promising(9);
        Desk.cause(x, 2, -1, "fan");
        Desk.cause(x, 2, -1, "key");
        x.planChange(0, 19999, 20000, true);
        x.planChange(1, 0, 20000, true);
        x.failChange(1);
        Desk.open(x, 0, "key");
        Desk.passUntil(x, 19999);
        Desk.open(x, 0, "fan");
        Check.equal("both are hushed", Desk.states(x, 2), "hh");
        Check.equal("one is solved", x.pass(1), 1);
        Check.equal("the other is open", Desk.states(x, 2), "os");
    }
}

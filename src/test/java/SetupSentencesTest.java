import java.util.NoSuchElementException;

/** The sentences of the promises 1 to 10, each where its boundary lies. */
final class SetupSentencesTest {
    private static final Class<IllegalArgumentException> ARGUMENT = IllegalArgumentException.class;
    private static final Class<IllegalStateException> STATE = IllegalStateException.class;
    private static final Class<IndexOutOfBoundsException> INDEX = IndexOutOfBoundsException.class;
    private static final Class<NoSuchElementException> NONE = NoSuchElementException.class;
    private static final Class<UnsupportedOperationException> UNABLE =
            UnsupportedOperationException.class;
    private static final int LEAST = Integer.MIN_VALUE;
    private static final int MOST = Integer.MAX_VALUE;

    private SetupSentencesTest() {
    }

    // ---- promise 1

    @Says("1: Creates a desk without customers, causes, pages and people, at the time 0.")
    static void newDeskIsEmpty() {
        DeskExchange x = new DeskExchange();
        Check.equal("the time", x.now(), 0);
        x.type('a');
        Check.throwsJust("no customer", INDEX, () -> x.open(0));
        Check.throwsJust("no cause", INDEX, () -> x.addPage(0));
        Check.throwsJust("no page", INDEX, () -> x.trust(0));
        Check.throwsJust("no person", INDEX, () -> x.letGo(0));
        Check.throwsJust("no ticket", INDEX, () -> x.clock(0));
        Check.throwsJust("no change", INDEX, () -> x.failChange(0));
        Check.throwsJust("no line", INDEX, () -> x.lineAt(0));
    }

    @Says("1: Creates a desk without customers, causes, pages and people, at the time 0.")
    static void newDeskSharesNothing() {
        DeskExchange other = Desk.inAllStates();
        other.writeLine(0);
        other.type('a');
        newDeskIsEmpty();
        DeskExchange x = new DeskExchange();
        Check.equal("its own buffer", x.type('a'), 1);
        Check.equal("its own customers", x.addCustomer(1), 0);
        Check.equal("its own causes", x.addCause(1, -1), 0);
        Check.equal("its own pages", x.addPage(0), 0);
        Check.equal("its own people", x.addPerson(0, 0, 1), 0);
    }

    // ---- promise 2

    @Says("2: Appends a character to the text buffer, which is initially empty.")
    static void appendsAtTheEnd() {
        DeskExchange x = Desk.promising(9);
        Check.equal("initially empty", x.type('a'), 1);
        Check.equal("appended", x.type('b'), 2);
        x.open(0);
        Desk.openEach(x, "ab", "ba");
        Check.equal("in this order", x.likeness(0, 1), 1);
        Check.equal("not the other way", x.likeness(0, 2), 0);
    }

    @Says("2: `character`: a letter from 'a' to 'z', or a blank")
    static void lettersAndTheBlank() {
        DeskExchange x = Desk.promising(9);
        for (int i = 0; i < 26; i++) {
            Check.equal("a letter", x.type((char) ('a' + i)), i + 1);
        }
        Check.equal("a blank", x.type(' '), 27);
        Check.equal("all letters are one word", x.likeness(x.open(0), 0), 1);
    }

    @Says("2: Returns the number of characters in the buffer afterwards.")
    static void returnsFrom1To40() {
        DeskExchange x = Desk.promising(9);
        for (int i = 1; i <= 40; i++) {
            Check.equal("type", x.type(i % 2 == 0 ? ' ' : 'a'), i);
        }
        x.open(0);
        Check.equal("from 1 on again", x.type(' '), 1);
    }

    @Says("2: Throws `IllegalArgumentException` if the character is neither a letter from 'a' to 'z'"
        + " nor a blank")
    static void otherCharactersThrow() {
        DeskExchange x = new DeskExchange();
        int calls = 0;
        for (int character = 0; character <= Character.MAX_VALUE; character++) {
            char each = (char) character;
            if (each != ' ' && (each < 'a' || each > 'z')) {
                x = calls++ % 400 == 0 ? new DeskExchange() : x;
                DeskExchange asked = x;
                Check.throwsJust("character " + character, ARGUMENT, () -> asked.type(each));
            }
        }
        Check.equal("nothing was appended", x.type('a'), 1);
    }

    @Says("2: Throws `IllegalStateException` if the buffer contains 40 characters")
    static void fullBufferThrows() {
        for (char each : new char[] {'a', 'z', ' '}) {
            DeskExchange x = Desk.promising(9);
            Desk.type(x, "a".repeat(39));
            Check.equal("the 40th", x.type(each), 40);
            Check.throwsJust("the 41st", STATE, () -> x.type('a'));
            Check.throwsJust("a blank", STATE, () -> x.type(' '));
            x.open(0);
            Check.equal("empty again", x.type(each), 1);
        }
    }

    // ---- promise 3

    @Says({"3: Adds a customer. There are at most 5 customers, numbered from 0.",
        "3: Returns the number of the customer."})
    static void fiveCustomers() {
        DeskExchange x = new DeskExchange();
        for (int i = 0; i < 5; i++) {
            x.type('a');
            int customer = i;
            Check.throwsJust("not yet", INDEX, () -> x.open(customer));
            Check.equal("addCustomer", x.addCustomer(7), i);
            Check.equal("now", Desk.open(x, i, "a"), i);
        }
        Check.throwsJust("no sixth is there", INDEX, () -> Desk.open(x, 5, "a"));
    }

    @Says("3: `promise`: the promised minutes, 1 to 5000")
    static void promisedFrom1To5000() {
        DeskExchange x = new DeskExchange();
        int[] promises = {1, 2, 4999, 5000};
        for (int i = 0; i < promises.length; i++) {
            Check.equal("addCustomer", x.addCustomer(promises[i]), i);
            Desk.open(x, i, "a");
        }
        int[] times = {1, 2, 3, 4999, 5000, 5001};
        int[] broken = {0, 1, 2, 2, 3, 4};
        for (int i = 0; i < times.length; i++) {
            Desk.passUntil(x, times[i]);
            for (int k = 0; k < promises.length; k++) {
                Check.equal("broken at " + times[i], x.isBroken(k), k < broken[i]);
            }
        }
    }

    @Says("3: Throws `IllegalArgumentException` if the number is out of range")
    static void promiseOutOfRange() {
        DeskExchange x = new DeskExchange();
        Check.eachThrows("addCustomer", ARGUMENT, new int[] {0, -1, 5001, 5002, LEAST, MOST},
                x::addCustomer);
        Check.equal("none was added", x.addCustomer(1), 0);
    }

    @Says("3: Throws `IllegalStateException` if there are 5 customers")
    static void sixthCustomerThrows() {
        DeskExchange x = new DeskExchange();
        for (int i = 0; i < 4; i++) {
            x.addCustomer(1);
        }
        Check.equal("the fifth", x.addCustomer(5000), 4);
        Check.eachThrows("the sixth", STATE, new int[] {1, 5000}, x::addCustomer);
    }

    // ---- promise 4

    @Says("4: Adds a cause without keywords.")
    static void causeWithoutKeywords() {
        DeskExchange x = Desk.promising(9);
        Desk.cause(x, 1, -1, "a");
        x.addCause(1, -1);
        Desk.openEach(x, "a", "b");
        Check.equal("the other cause", x.cause(0), 0);
        Check.throwsJust("none", NONE, () -> x.cause(1));
        Check.equal("its first keyword", Desk.keyword(x, 1, "a"), 1);
    }

    @Says("4: `work`: its work minutes, 1 to 600")
    static void workFrom1To600() {
        for (int work : new int[] {1, 2, 599, 600}) {
            DeskExchange x = Desk.promising(9);
            Check.equal("addCause", Desk.cause(x, work, -1, "a"), 0);
            x.addPerson(1, 0, 1440);
            Desk.open(x, 0, "a");
            Check.equal("assign", x.assign(0, 0), work);
            Check.equal("not yet", work == 1 ? 0 : x.pass(work - 1), 0);
            Check.equal("one minute is left", x.minutesLeft(0), 1);
            Check.equal("solved", x.pass(1), 1);
        }
    }

    @Says("4: `part`: the kind of part that is needed, 0 to 4, or -1 for none")
    static void partFrom0To4OrNone() {
        for (int part = -1; part <= 4; part++) {
            DeskExchange x = Desk.promising(9);
            Desk.cause(x, 1, part, "a");
            for (int kind = 0; kind < 5; kind++) {
                x.addStock(kind, 1);
            }
            Desk.open(x, 0, "a");
            for (int kind = 0; kind < 5; kind++) {
                Check.equal("reserved of " + kind, x.reserved(kind), kind == part ? 1 : 0);
            }
        }
    }

    @Says("4: Returns the number of the cause.")
    static void returnsTheCause() {
        DeskExchange x = Desk.promising(9);
        for (int i = 0; i < 8; i++) {
            String word = String.valueOf((char) ('a' + i));
            Check.equal("the number", Desk.cause(x, 1, -1, word), i);
            Check.equal("found by it", x.cause(Desk.open(x, 0, word)), i);
        }
    }

    @Says("4: Throws `IllegalArgumentException` if a number is out of range")
    static void causeOutOfRange() {
        DeskExchange x = new DeskExchange();
        int[] works = {0, -1, 601, 602, LEAST, MOST};
        Check.eachThrows("work", ARGUMENT, works, work -> x.addCause(work, 0));
        Check.eachThrows("work without a part", ARGUMENT, works, work -> x.addCause(work, -1));
        int[] parts = {-2, -3, 5, 6, LEAST, MOST};
        Check.eachThrows("part", ARGUMENT, parts, part -> x.addCause(1, part));
        Check.eachThrows("both", ARGUMENT, parts, part -> x.addCause(0, part));
        Check.equal("none was added", x.addCause(1, 0), 0);
    }

    @Says("4: Throws `IllegalStateException` if there are 8 causes")
    static void ninthCauseThrows() {
        DeskExchange x = new DeskExchange();
        for (int i = 0; i < 7; i++) {
            x.addCause(1, -1);
        }
        Check.equal("the eighth", x.addCause(600, 4), 7);
        Check.throwsJust("the ninth", STATE, () -> x.addCause(1, -1));
        Check.throwsJust("another ninth", STATE, () -> x.addCause(600, 4));
    }

    // ---- promise 5

    @Says("5: Adds a keyword to a cause: the content of the text buffer,")
    static void keywordIsTheWord() {
        DeskExchange x = Desk.promising(9);
        x.addCause(1, -1);
        x.addCause(1, -1);
        Desk.keyword(x, 1, "a".repeat(40));
        Desk.keyword(x, 1, "b");
        Desk.openEach(x, "a".repeat(40), "b", "a".repeat(39), "bb");
        Check.equal("of forty letters", x.cause(0), 1);
        Check.equal("of one letter", x.cause(1), 1);
        Check.throwsJust("one letter less", NONE, () -> x.cause(2));
        Check.throwsJust("one letter more", NONE, () -> x.cause(3));
    }

    @Says("5: which is empty afterwards, also if an exception is thrown.")
    static void keywordEmptiesTheBuffer() {
        DeskExchange x = new DeskExchange();
        x.addCause(1, -1);
        Desk.keyword(x, 0, "a");
        Check.equal("afterwards", x.type('b'), 1);
        Check.throwsJust("no such cause", INDEX, () -> x.addKeyword(1));
        Check.equal("after no such cause", x.type(' '), 1);
        Check.throwsJust("no word", ARGUMENT, () -> x.addKeyword(0));
        Check.equal("after no word", x.type('b'), 1);
        Desk.type(x, " c");
        Check.throwsJust("two words", ARGUMENT, () -> x.addKeyword(0));
        Check.equal("after two words", x.type('a'), 1);
        Check.throwsJust("the same", ARGUMENT, () -> x.addKeyword(0));
        Check.equal("after the same", x.type('d'), 1);
        Check.equal("a second", x.addKeyword(0), 2);
        Check.equal("a third", Desk.keyword(x, 0, "e"), 3);
        Check.throwsJust("a fourth", STATE, () -> Desk.keyword(x, 0, "f"));
        Check.equal("after a fourth", x.type('g'), 1);
    }

    @Says("5: Returns the number of keywords of the cause afterwards.")
    static void returnsTheNumberOfKeywords() {
        DeskExchange x = new DeskExchange();
        x.addCause(1, -1);
        x.addCause(1, -1);
        for (int i = 1; i <= 3; i++) {
            Check.equal("of the one", Desk.keyword(x, 0, "a".repeat(i)), i);
            Check.equal("of the other", Desk.keyword(x, 1, "a".repeat(i)), i);
        }
    }

    @Says("5: Throws `IndexOutOfBoundsException` if there is no such cause")
    static void keywordOfNoCause() {
        DeskExchange x = new DeskExchange();
        Check.eachThrows("without causes", INDEX, new int[] {0, -1, 7, LEAST, MOST},
                cause -> Desk.keyword(x, cause, "a"));
        x.addCause(1, -1);
        x.addCause(1, -1);
        Check.eachThrows("with two", INDEX, new int[] {-1, 2, 3, 7, 8, LEAST, MOST},
                cause -> Desk.keyword(x, cause, "a"));
        Check.equal("the last", Desk.keyword(x, 1, "a"), 1);
    }

    @Says("5: Throws `IllegalArgumentException` if the content is not exactly one word")
    static void notExactlyOneWord() {
        DeskExchange x = new DeskExchange();
        x.addCause(1, -1);
        String[] contents = {"", " ", " ".repeat(40), "a b", "a  b ", " a b c", "a a",
            "a" + " ".repeat(38) + "b"};
        for (String content : contents) {
            Check.throwsJust("content \"" + content + "\"", ARGUMENT, () -> Desk.keyword(x, 0, content));
        }
        Check.equal("exactly one word", Desk.keyword(x, 0, "  a  "), 1);
    }

    @Says("5: or the cause has this keyword")
    static void keywordTwice() {
        DeskExchange x = new DeskExchange();
        x.addCause(1, -1);
        x.addCause(1, -1);
        Desk.keyword(x, 0, "a");
        Check.throwsJust("the first", ARGUMENT, () -> Desk.keyword(x, 0, "a"));
        Desk.keyword(x, 0, "aa");
        Check.throwsJust("the first", ARGUMENT, () -> Desk.keyword(x, 0, " a"));
        Check.throwsJust("the second", ARGUMENT, () -> Desk.keyword(x, 0, "aa "));
        Check.equal("another cause has it not", Desk.keyword(x, 1, "aa"), 1);
    }

    @Says("5: Throws `IllegalStateException` if the cause has 3 keywords")
    static void fourthKeywordThrows() {
        DeskExchange x = Desk.promising(9);
        x.addCause(1, -1);
        x.addCause(1, -1);
        Desk.keyword(x, 0, "a");
        Desk.keyword(x, 0, "b");
        Check.equal("the third", Desk.keyword(x, 0, "c"), 3);
        Check.throwsJust("the fourth", STATE, () -> Desk.keyword(x, 0, "d"));
        Check.equal("of another cause", Desk.keyword(x, 1, "d"), 1);
        Check.equal("the fourth was not added", x.cause(Desk.open(x, 0, "d")), 1);
    }

    // ---- promise 6

    @Says({"6: Adds a page.", "6: Returns the number of the page."})
    static void pagesAreNumbered() {
        DeskExchange x = new DeskExchange();
        x.addCause(1, -1);
        x.addCause(1, -1);
        Check.equal("the first", x.addPage(1), 0);
        Check.throwsJust("no second yet", INDEX, () -> x.trust(1));
        Check.equal("the second", x.addPage(0), 1);
        Check.equal("its trust", x.trust(1), 50);
    }

    @Says("6: Throws `IndexOutOfBoundsException` if there is no such cause")
    static void pageOfNoCause() {
        DeskExchange x = new DeskExchange();
        Check.eachThrows("without causes", INDEX, new int[] {0, -1, 7, LEAST, MOST}, x::addPage);
        x.addCause(1, -1);
        Check.eachThrows("with one", INDEX, new int[] {-1, 1, 2, 8, LEAST, MOST}, x::addPage);
        Check.equal("the last cause", x.addPage(0), 0);
    }

    @Says("6: Throws `IllegalStateException` if there is a page of this cause")
    static void secondPageThrows() {
        DeskExchange x = new DeskExchange();
        x.addCause(1, -1);
        x.addCause(1, -1);
        x.addPage(0);
        Check.throwsJust("of the first", STATE, () -> x.addPage(0));
        Check.equal("of the other", x.addPage(1), 1);
        Check.throwsJust("of the other", STATE, () -> x.addPage(1));
    }

    // ---- promise 7

    @Says({"7: Adds a person.", "7: Returns the number of the person."})
    static void peopleAreNumbered() {
        DeskExchange x = new DeskExchange();
        for (int i = 0; i < 6; i++) {
            int person = i;
            Check.throwsJust("not yet", INDEX, () -> x.isOnShift(person));
            Check.equal("addPerson", x.addPerson(0, i % 2, 5), i);
            Check.equal("now", x.isOnShift(i), i % 2 == 0);
        }
    }

    @Says("7: `skills`: the set of causes, as a number from 0 to 255 in which bit k, with the value 2"
        + " to the power of k, is 1 if the cause k belongs to it, whether this cause exists or not")
    static void skillsFrom0To255() {
        int[] skills = {0, 255, 1, 128, 85, 170};
        DeskExchange x = Desk.promising(9);
        for (int i = 0; i < skills.length; i++) {
            Check.equal("ahead of all causes", x.addPerson(skills[i], 0, 1440), i);
        }
        for (int cause = 0; cause < 8; cause++) {
            String word = String.valueOf((char) ('a' + cause));
            Desk.cause(x, 9, -1, word);
            Desk.open(x, 0, word);
            for (int person = 0; person < skills.length; person++) {
                checkSkill(x, cause, person, skills[person] / (1 << cause) % 2 == 1);
            }
        }
    }

    private static void checkSkill(DeskExchange x, int ticket, int person, boolean isThere) {
        if (isThere) {
            Check.equal("has the skill", x.assign(ticket, person), 9);
            x.letGo(person);
        } else {
            Check.throwsJust("has not the skill", UNABLE, () -> x.assign(ticket, person));
        }
    }

    @Says("7: `from`: the minute of the day with which the shift begins, 0 to 1439")
    static void shiftBegins() {
        int[] begins = {0, 1, 1438, 1439};
        DeskExchange x = new DeskExchange();
        for (int i = 0; i < begins.length; i++) {
            Check.equal("addPerson", x.addPerson(0, begins[i], 1440), i);
        }
        for (int time : new int[] {0, 1, 2, 1437, 1438, 1439, 1440, 1441}) {
            Desk.passUntil(x, time);
            for (int i = 0; i < begins.length; i++) {
                Check.equal("from " + begins[i] + " at " + time, x.isOnShift(i), time % 1440 >= begins[i]);
            }
        }
    }

    @Says("7: `to`: the minute of the day ahead of which it ends, greater than from, at most 1440")
    static void shiftEnds() {
        int[] ends = {1, 2, 1439, 1440};
        DeskExchange x = new DeskExchange();
        for (int i = 0; i < ends.length; i++) {
            Check.equal("addPerson", x.addPerson(0, 0, ends[i]), i);
        }
        for (int time : new int[] {0, 1, 2, 1437, 1438, 1439, 1440, 1441}) {
            Desk.passUntil(x, time);
            for (int i = 0; i < ends.length; i++) {
                Check.equal("to " + ends[i] + " at " + time, x.isOnShift(i), time % 1440 < ends[i]);
            }
        }
    }

    @Says("7: Throws `IllegalArgumentException` if a number is out of range")
    static void personOutOfRange() {
        DeskExchange x = new DeskExchange();
        Check.eachThrows("skills", ARGUMENT, new int[] {-1, 256, 257, 511, LEAST, MOST},
                skills -> x.addPerson(skills, 0, 1440));
        Check.eachThrows("from", ARGUMENT, new int[] {-1, 1440, 1441, LEAST, MOST},
                from -> x.addPerson(255, from, 1440));
        Check.eachThrows("to, from 0", ARGUMENT, new int[] {0, -1, 1441, 1442, LEAST, MOST},
                to -> x.addPerson(255, 0, to));
        Check.eachThrows("to, not greater than from", ARGUMENT, new int[] {700, 699, 0, LEAST},
                to -> x.addPerson(255, 700, to));
        Check.eachThrows("to, from 1439", ARGUMENT, new int[] {1439, 1438, 1441, MOST},
                to -> x.addPerson(255, 1439, to));
        Check.throwsJust("a shift ahead of the day", ARGUMENT, () -> x.addPerson(0, -2, -1));
        Check.throwsJust("a shift of the next day", ARGUMENT, () -> x.addPerson(0, 1440, 1441));
        Check.equal("none was added", x.addPerson(0, 1439, 1440), 0);
    }

    @Says("7: Throws `IllegalStateException` if there are 6 people")
    static void seventhPersonThrows() {
        DeskExchange x = new DeskExchange();
        for (int i = 0; i < 5; i++) {
            x.addPerson(0, 0, 1);
        }
        Check.equal("the sixth", x.addPerson(255, 0, 1440), 5);
        Check.throwsJust("the seventh", STATE, () -> x.addPerson(0, 0, 1));
        Check.throwsJust("another seventh", STATE, () -> x.addPerson(255, 0, 1440));
    }

    // ---- promise 8

    @Says("8: Adds parts to the stock. They are not reserved for tickets that are there already.")
    static void stockIsNotReservedLater() {
        DeskExchange x = Desk.promising(9);
        Desk.cause(x, 1, 2, "fan");
        Desk.open(x, 0, "fan");
        x.addStock(2, 50);
        Check.equal("all are free", x.free(2), 50);
        Check.equal("none is reserved", x.reserved(2), 0);
        x.pass(1);
        Check.equal("also later", x.reserved(2), 0);
        Desk.open(x, 0, "fan");
        Check.equal("for a new ticket", x.reserved(2), 1);
    }

    @Says({"8: `count`: the number of parts, 1 to 50",
        "8: Returns the stock afterwards, reserved parts included."})
    static void stockGrowsBy1To50() {
        DeskExchange x = Desk.promising(9);
        Desk.cause(x, 1, 4, "fan");
        Check.equal("one", x.addStock(4, 1), 1);
        Desk.open(x, 0, "fan");
        Check.equal("fifty, one is reserved", x.addStock(4, 50), 51);
        Check.equal("fifty more", x.addStock(4, 50), 101);
        Check.equal("free", x.free(4), 100);
        Check.equal("of another kind", x.addStock(0, 50), 50);
    }

    @Says("8: Returns the stock afterwards, reserved parts included.")
    static void usedPartsAreNotIncluded() {
        DeskExchange x = Desk.promising(9);
        Desk.cause(x, 1, 4, "fan");
        x.addPerson(1, 0, 1440);
        x.addStock(4, 1);
        Desk.open(x, 0, "fan");
        x.assign(0, 0);
        Check.equal("in use", x.addStock(4, 1), 2);
        x.pass(1);
        Check.equal("used up", x.addStock(4, 1), 2);
    }

    @Says("8: Throws `IndexOutOfBoundsException` if there is no such kind")
    static void stockOfNoKind() {
        DeskExchange x = new DeskExchange();
        Check.eachThrows("addStock", INDEX, new int[] {-1, 5, 6, LEAST, MOST},
                part -> x.addStock(part, 1));
        for (int part = 0; part < 5; part++) {
            Check.equal("the kinds", x.addStock(part, 1), 1);
        }
    }

    @Says("8: Throws `IllegalArgumentException` if the number is out of range")
    static void countOutOfRange() {
        DeskExchange x = new DeskExchange();
        Check.eachThrows("addStock", ARGUMENT, new int[] {0, -1, 51, 52, LEAST, MOST},
                count -> x.addStock(4, count));
        Check.equal("none was added", x.addStock(4, 1), 1);
    }

    // ---- promise 9

    @Says({"9: Plans a change.", "9: Returns the number of the change."})
    static void changesAreNumbered() {
        DeskExchange x = new DeskExchange();
        x.addCause(1, -1);
        for (int i = 0; i < 6; i++) {
            int change = i;
            Check.throwsJust("not yet", INDEX, () -> x.failChange(change));
            Check.equal("planChange", x.planChange(0, i % 2, 9, false), i);
            Check.equal("now", x.failChange(i), i % 2 == 0);
        }
    }

    @Says("9: `from`: its beginning, the present time or later")
    static void beginsNowOrLater() {
        DeskExchange x = Desk.promising(9);
        Desk.cause(x, 1, -1, "fan");
        Check.throwsJust("ahead of 0", ARGUMENT, () -> x.planChange(0, -1, 9, true));
        Check.equal("at 0", x.planChange(0, 0, 1, true), 0);
        x.pass(7);
        Check.throwsJust("ahead of now", ARGUMENT, () -> x.planChange(0, 6, 9, true));
        Check.equal("now", x.planChange(0, 7, 9, true), 1);
        Check.equal("it hushes at once", x.state(Desk.open(x, 0, "fan")), 'h');
        Check.equal("later", x.planChange(0, 8, 9, true), 2);
        Check.equal("as late as can be", x.planChange(0, 19999, 20000, true), 3);
    }

    @Says("9: `to`: its end, later than its beginning, at most 20000")
    static void endsLaterThanItBegins() {
        DeskExchange x = new DeskExchange();
        x.addCause(1, -1);
        Check.throwsJust("at its beginning", ARGUMENT, () -> x.planChange(0, 5, 5, true));
        Check.throwsJust("ahead of it", ARGUMENT, () -> x.planChange(0, 5, 4, true));
        Check.equal("a minute later", x.planChange(0, 5, 6, true), 0);
        Check.equal("at 20000", x.planChange(0, 5, 20000, true), 1);
        Check.throwsJust("at 20001", ARGUMENT, () -> x.planChange(0, 5, 20001, true));
        Desk.passUntil(x, 20000);
        Check.throwsJust("no time is left", ARGUMENT, () -> x.planChange(0, 20000, 20001, true));
        Check.throwsJust("none at all", ARGUMENT, () -> x.planChange(0, 20000, 20000, true));
    }

    @Says("9: `isHushing`: true if it hushes its cause, false if it raises it")
    static void hushesOrRaises() {
        for (boolean isHushing : new boolean[] {true, false}) {
            DeskExchange x = Desk.promising(9);
            Desk.cause(x, 1, -1, "fan");
            x.planChange(0, 0, 5, isHushing);
            Desk.openEach(x, "fan", "else");
            Check.equal("hushes", x.state(0), isHushing ? 'h' : 'o');
            Check.equal("raises", Check.answerOf(() -> x.cause(1)),
                    isHushing ? "throws.NoSuchElementException" : "0");
        }
    }

    @Says("9: Throws `IndexOutOfBoundsException` if there is no such cause")
    static void changeOfNoCause() {
        DeskExchange x = new DeskExchange();
        Check.eachThrows("without causes", INDEX, new int[] {0, -1, 7, LEAST, MOST},
                cause -> x.planChange(cause, 0, 1, true));
        x.addCause(1, -1);
        Check.eachThrows("with one", INDEX, new int[] {-1, 1, 2, 8, LEAST, MOST},
                cause -> x.planChange(cause, 0, 1, true));
        Check.equal("the last cause", x.planChange(0, 0, 1, true), 0);
    }

    @Says("9: Throws `IllegalArgumentException` if a time is out of range")
    static void timeOutOfRange() {
        DeskExchange x = new DeskExchange();
        x.addCause(1, -1);
        x.pass(3);
        Check.eachThrows("from", ARGUMENT, new int[] {2, 0, -1, LEAST, 9, 10, 20000, MOST},
                from -> x.planChange(0, from, 9, false));
        Check.eachThrows("to", ARGUMENT, new int[] {3, 2, -1, LEAST, 20001, MOST},
                to -> x.planChange(0, 3, to, false));
        Check.throwsJust("both", ARGUMENT, () -> x.planChange(0, LEAST, MOST, false));
        Check.throwsJust("both too late", ARGUMENT, () -> x.planChange(0, 20000, 20001, false));
        Check.equal("none was planned", x.planChange(0, 3, 4, false), 0);
    }

    @Says("9: Throws `IllegalStateException` if there are 6 changes")
    static void seventhChangeThrows() {
        DeskExchange x = new DeskExchange();
        x.addCause(1, -1);
        x.addCause(1, -1);
        for (int i = 0; i < 5; i++) {
            x.planChange(0, 0, 1, true);
        }
        Check.equal("the sixth", x.planChange(0, 0, 20000, false), 5);
        Check.throwsJust("the seventh", STATE, () -> x.planChange(0, 0, 1, true));
        Check.throwsJust("of another cause", STATE, () -> x.planChange(1, 0, 1, false));
    }

    // ---- promise 10

    @Says("10: Tells that a change has failed.")
    static void failedOneOpensItsTickets() {
        DeskExchange x = Desk.promising(9);
        Desk.cause(x, 1, -1, "fan");
        x.planChange(0, 0, 3, true);
        Desk.openEach(x, "fan", "else");
        x.join(1, 0);
        x.failChange(0);
        Check.equal("still hushed", Desk.states(x, 2), "hj");
        Check.equal("none is solved", x.pass(3), 0);
        Check.equal("open, and still joined", Desk.states(x, 2), "oj");
    }

    @Says("10: Returns true if it is going on.")
    static void returnsWhetherItGoesOn() {
        DeskExchange x = new DeskExchange();
        x.addCause(1, -1);
        for (int i = 0; i < 4; i++) {
            x.planChange(0, 3, 5, i % 2 == 0);
        }
        x.planChange(0, 0, 1, true);
        Check.equal("at 0, its beginning", x.failChange(4), true);
        Check.equal("long ahead of it", x.failChange(0), false);
        x.pass(2);
        Check.equal("a minute ahead of it", x.failChange(1), false);
        x.pass(1);
        Check.equal("at its beginning", x.failChange(2), true);
        x.pass(1);
        Check.equal("in its last minute", x.failChange(3), true);
    }

    @Says("10: Throws `IndexOutOfBoundsException` if there is no such change")
    static void noSuchChange() {
        DeskExchange x = new DeskExchange();
        x.addCause(1, -1);
        Check.eachThrows("without changes", INDEX, new int[] {0, -1, 5, LEAST, MOST}, x::failChange);
        x.planChange(0, 0, 9, true);
        Check.eachThrows("with one", INDEX, new int[] {-1, 1, 2, 6, LEAST, MOST}, x::failChange);
        Check.equal("the last", x.failChange(0), true);
    }

    @Says("10: Throws `IllegalStateException` if it has failed, or has ended")
    static void failedOrEnded() {
        DeskExchange x = new DeskExchange();
        x.addCause(1, -1);
        x.planChange(0, 1, 3, true);
        x.planChange(0, 0, 1, false);
        x.planChange(0, 0, 2, true);
        x.failChange(0);
        Check.throwsJust("has failed ahead of its beginning", STATE, () -> x.failChange(0));
        x.pass(1);
        Check.throwsJust("has failed and goes on", STATE, () -> x.failChange(0));
        Check.throwsJust("has just ended", STATE, () -> x.failChange(1));
        Check.equal("ends in a minute", x.failChange(2), true);
        x.pass(9);
        Check.throwsJust("has failed and ended", STATE, () -> x.failChange(0));
        Check.throwsJust("has ended long ago", STATE, () -> x.failChange(1));
    }
}

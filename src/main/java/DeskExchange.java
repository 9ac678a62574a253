import java.util.ArrayList;
import java.util.NoSuchElementException;

/** A help desk: its tickets, their probable causes, and the clocks of their promises. */
public final class DeskExchange {
    private static final int MOST_CHARACTERS = 40;
    private static final int MOST_CUSTOMERS = 5;
    private static final int MOST_PROMISED = 5000;
    private static final int MOST_CAUSES = 8;
    private static final int MOST_WORK = 600;
    private static final int MOST_KEYWORDS = 3;
    private static final int MOST_PEOPLE = 6;
    private static final int MOST_SKILLS = 255;
    private static final int MOST_CHANGES = 6;
    private static final int MOST_TICKETS = 40;
    private static final int KINDS_OF_PARTS = 5;
    private static final int NO_PART = -1;
    private static final int MOST_PARTS_AT_ONCE = 50;

    private static final int DAY = 1440;
    private static final int LAST_TIME = 20000;
    private static final int MOST_MINUTES_AT_ONCE = 1000;
    private static final int WORK_WITHOUT_CAUSE = 30;

    private static final int FIRST_TRUST = 50;
    private static final int TRUST_TO_ANSWER = 70;
    private static final int MOST_TRUST = 100;
    private static final int TRUST_BY_WORK = 10;
    private static final int TRUST_BY_HELP = 5;
    private static final int TRUST_BY_NO_HELP = -10;

    private static final char OPEN = 'o';
    private static final char WORKED_ON = 'w';
    private static final char ANSWERED = 'a';
    private static final char HUSHED = 'h';
    private static final char JOINED = 'j';
    private static final char SOLVED = 's';

    private static final char BY_NOBODY = ' ';
    private static final char BY_PERSON = 'p';
    private static final char BY_PAGE = 'g';
    private static final char BY_CHANGE = 'c';

    private final StringBuilder typed = new StringBuilder();
    private final StringBuilder line = new StringBuilder();
    private final ArrayList<Integer> promises = new ArrayList<>();
    private final ArrayList<Cause> causes = new ArrayList<>();
    private final ArrayList<Page> pages = new ArrayList<>();
    private final ArrayList<Person> people = new ArrayList<>();
    private final ArrayList<Stock> stocks = new ArrayList<>();
    private final ArrayList<Change> changes = new ArrayList<>();
    private final ArrayList<Ticket> tickets = new ArrayList<>();
    private int time = 0;

    public DeskExchange() {
        for (int i = 0; i < KINDS_OF_PARTS; i++) {
            stocks.add(new Stock());
        }
    }

    // ---- what there is

    public int type(char character) throws IllegalArgumentException, IllegalStateException {
        if (character != ' ' && (character < 'a' || character > 'z')) {
            throw new IllegalArgumentException("neither a letter from a to z nor a blank");
        }
        if (typed.length() >= MOST_CHARACTERS) {
            throw new IllegalStateException("the text buffer is full");
        }
        typed.append(character);
        return typed.length();
    }

    public int addCustomer(int promise) throws IllegalArgumentException, IllegalStateException {
        if (promise < 1 || promise > MOST_PROMISED) {
            throw new IllegalArgumentException("promised minutes out of range");
        }
        if (promises.size() >= MOST_CUSTOMERS) {
            throw new IllegalStateException("no more customers");
        }
        promises.add(promise);
        return promises.size() - 1;
    }

    public int addCause(int work, int part) throws IllegalArgumentException, IllegalStateException {
        if (work < 1 || work > MOST_WORK) {
            throw new IllegalArgumentException("work minutes out of range");
        }
        if (part != NO_PART && !isKind(part)) {
            throw new IllegalArgumentException("kind of part out of range");
        }
        if (causes.size() >= MOST_CAUSES) {
            throw new IllegalStateException("no more causes");
        }
        Stock stock = part >= 0 && part < stocks.size() ? stocks.get(part) : null;
        causes.add(new Cause(causes.size(), work, stock));
        return causes.size() - 1;
    }

    public int addKeyword(int cause)
            throws IndexOutOfBoundsException, IllegalArgumentException, IllegalStateException {
        ArrayList<Word> content = takeWords();
        WordSet keywords = causeAt(cause).keywords;
        if (content.size() != 1) {
            throw new IllegalArgumentException("not exactly one word");
        }
        Word word = content.get(0);
        if (keywords.has(word)) {
            throw new IllegalArgumentException("the cause has this keyword");
        }
        if (keywords.size() >= MOST_KEYWORDS) {
            throw new IllegalStateException("no more keywords");
        }
        keywords.include(word);
        return keywords.size();
    }

    public int addPage(int cause) throws IndexOutOfBoundsException, IllegalStateException {
        Cause known = causeAt(cause);
        if (known.page != null) {
            throw new IllegalStateException("there is a page of this cause");
        }
        known.page = new Page();
        pages.add(known.page);
        return pages.size() - 1;
    }

    public int addPerson(int skills, int from, int to)
            throws IllegalArgumentException, IllegalStateException {
        if (skills < 0 || skills > MOST_SKILLS) {
            throw new IllegalArgumentException("skills out of range");
        }
        if (from < 0 || from >= DAY || to <= from || to > DAY) {
            throw new IllegalArgumentException("shift out of range");
        }
        if (people.size() >= MOST_PEOPLE) {
            throw new IllegalStateException("no more people");
        }
        people.add(new Person(skills, from, to));
        return people.size() - 1;
    }

    public int addStock(int part, int count)
            throws IndexOutOfBoundsException, IllegalArgumentException {
        Stock stock = stockAt(part);
        if (count < 1 || count > MOST_PARTS_AT_ONCE) {
            throw new IllegalArgumentException("number of parts out of range");
        }
        stock.count += count;
        return stock.count;
    }

    public int planChange(int cause, int from, int to, boolean isHushing)
            throws IndexOutOfBoundsException, IllegalArgumentException, IllegalStateException {
        Cause changed = causeAt(cause);
        if (from < time || to <= from || to > LAST_TIME) {
            throw new IllegalArgumentException("time out of range");
        }
        if (changes.size() >= MOST_CHANGES) {
            throw new IllegalStateException("no more changes");
        }
        changes.add(new Change(changed, from, to, isHushing));
        return changes.size() - 1;
    }

    public boolean failChange(int change) throws IndexOutOfBoundsException, IllegalStateException {
        if (change < 0 || change >= changes.size()) {
            throw new IndexOutOfBoundsException("no such change");
        }
        Change failing = changes.get(change);
        if (failing.hasFailed || failing.to <= time) {
            throw new IllegalStateException("the change has failed or ended");
        }
        failing.hasFailed = true;
        return failing.goesOnAt(time);
    }

    // ---- tickets

    public int open(int customer)
            throws IndexOutOfBoundsException, IllegalArgumentException, IllegalStateException {
        ArrayList<Word> content = takeWords();
        if (customer < 0 || customer >= promises.size()) {
            throw new IndexOutOfBoundsException("no such customer");
        }
        if (content.isEmpty()) {
            throw new IllegalArgumentException("no word");
        }
        if (tickets.size() >= MOST_TICKETS) {
            throw new IllegalStateException("no more tickets");
        }
        Ticket opened = new Ticket(tickets.size(), promises.get(customer), new WordSet(content));
        tickets.add(opened);
        logOpening(opened);
        opened.cause = findCause(opened);
        reservePart(opened);
        opened.hushing = hushingChange(opened.cause);
        enter(opened, firstState(opened), time);
        return opened.number;
    }

    public char state(int ticket) throws IndexOutOfBoundsException {
        return ticketAt(ticket).state;
    }

    public int cause(int ticket) throws IndexOutOfBoundsException, NoSuchElementException {
        return numberOf(ticketAt(ticket).cause);
    }

    public int causeFromLog(int ticket) throws IndexOutOfBoundsException, NoSuchElementException {
        return numberOf(findCause(ticketAt(ticket)));
    }

    public int likeness(int ticket, int other) throws IndexOutOfBoundsException {
        return ticketAt(ticket).likenessTo(ticketAt(other));
    }

    public int mostLike(int ticket) throws IndexOutOfBoundsException, NoSuchElementException {
        Ticket given = ticketAt(ticket);
        Ticket best = null;
        int most = 0;
        for (int i = 0; i < tickets.size(); i++) {
            Ticket other = tickets.get(i);
            int likeness = given.likenessTo(other);
            if (other != given && other.state != SOLVED && likeness > most) {
                best = other;
                most = likeness;
            }
        }
        if (best == null) {
            throw new NoSuchElementException("no other ticket is like it");
        }
        return best.number;
    }

    public int join(int ticket, int parent)
            throws IndexOutOfBoundsException, IllegalArgumentException, IllegalStateException {
        Ticket child = ticketAt(ticket);
        Ticket above = ticketAt(parent);
        if (child == above) {
            throw new IllegalArgumentException("a ticket is not joined to itself");
        }
        if (child.state != OPEN || countJoinedTo(child) > 0) {
            throw new IllegalStateException("the ticket is not open or is a parent");
        }
        if (above.state == JOINED || above.state == SOLVED) {
            throw new IllegalStateException("the parent is joined or solved");
        }
        child.parent = above;
        enter(child, JOINED, time);
        return countJoinedTo(above);
    }

    public int parentOf(int ticket) throws IndexOutOfBoundsException, NoSuchElementException {
        Ticket parent = ticketAt(ticket).parent;
        if (parent == null) {
            throw new NoSuchElementException("the ticket was never joined");
        }
        return parent.number;
    }

    public boolean confirm(int ticket, boolean hasHelped)
            throws IndexOutOfBoundsException, IllegalStateException {
        Ticket answered = ticketAt(ticket);
        Page page = pageFor(answered);
        if (answered.state != ANSWERED || page == null) {
            throw new IllegalStateException("the ticket is not answered");
        }
        if (hasHelped) {
            page.changeTrust(TRUST_BY_HELP);
            solve(answered, BY_PAGE, time);
        } else {
            page.changeTrust(TRUST_BY_NO_HELP);
            enter(answered, OPEN, time);
        }
        return page.canAnswer();
    }

    public int assign(int ticket, int person)
            throws IndexOutOfBoundsException, IllegalStateException, UnsupportedOperationException {
        Ticket assigned = ticketAt(ticket);
        Person worker = personAt(person);
        if (assigned.state != OPEN || worker.ticket != null) {
            throw new IllegalStateException("the ticket is not open or the person works");
        }
        if (!worker.hasSkillFor(assigned.cause)) {
            throw new UnsupportedOperationException("the person has not the skill");
        }
        reservePart(assigned);
        if (assigned.lacksPart()) {
            throw new UnsupportedOperationException("no part is free");
        }
        worker.ticket = assigned;
        worker.worked = 0;
        enter(assigned, WORKED_ON, time);
        return assigned.work();
    }

    public int letGo(int person) throws IndexOutOfBoundsException, IllegalStateException {
        Person worker = personAt(person);
        Ticket left = worker.ticket;
        if (left == null) {
            throw new IllegalStateException("the person does not work");
        }
        worker.ticket = null;
        enter(left, OPEN, time);
        return worker.worked;
    }

    public char solvedBy(int ticket) throws IndexOutOfBoundsException, NoSuchElementException {
        Ticket solved = ticketAt(ticket);
        if (solved.state != SOLVED) {
            throw new NoSuchElementException("the ticket is not solved");
        }
        return solved.solver;
    }

    public int nextTicket() throws NoSuchElementException {
        Ticket next = null;
        for (int i = 0; i < tickets.size(); i++) {
            Ticket ticket = tickets.get(i);
            boolean isFirst = next == null || ticket.promiseLeft() < next.promiseLeft();
            if (ticket.state == OPEN && isFirst) {
                next = ticket;
            }
        }
        if (next == null) {
            throw new NoSuchElementException("no ticket is open");
        }
        return next.number;
    }

    // ---- people, parts and pages

    public int workOf(int person) throws IndexOutOfBoundsException, NoSuchElementException {
        Ticket ticket = personAt(person).ticket;
        if (ticket == null) {
            throw new NoSuchElementException("the person works on no ticket");
        }
        return ticket.number;
    }

    public int minutesLeft(int person) throws IndexOutOfBoundsException, NoSuchElementException {
        Person worker = personAt(person);
        Ticket ticket = worker.ticket;
        if (ticket == null) {
            throw new NoSuchElementException("the person works on no ticket");
        }
        return ticket.work() - worker.worked;
    }

    public boolean isOnShift(int person) throws IndexOutOfBoundsException {
        return personAt(person).hasShiftAt(time);
    }

    public int free(int part) throws IndexOutOfBoundsException {
        return stockAt(part).unreserved();
    }

    public int reserved(int part) throws IndexOutOfBoundsException {
        return stockAt(part).reserved;
    }

    public int trust(int page) throws IndexOutOfBoundsException {
        if (page < 0 || page >= pages.size()) {
            throw new IndexOutOfBoundsException("no such page");
        }
        return pages.get(page).trust;
    }

    // ---- time, clocks and figures

    public int now() {
        return time;
    }

    public int pass(int minutes) throws IllegalArgumentException, IllegalStateException {
        if (minutes < 1 || minutes > MOST_MINUTES_AT_ONCE) {
            throw new IllegalArgumentException("number of minutes out of range");
        }
        if (minutes > LAST_TIME - time) {
            throw new IllegalStateException("the time would be too great");
        }
        int solved = 0;
        for (int i = 0; i < minutes; i++) {
            solved += passMinute();
        }
        return solved;
    }

    public int clock(int ticket) throws IndexOutOfBoundsException {
        return ticketAt(ticket).minutes;
    }

    public int clockFromLog(int ticket) throws IndexOutOfBoundsException {
        return ticketAt(ticket).loggedMinutes(time);
    }

    public boolean isBroken(int ticket) throws IndexOutOfBoundsException {
        return ticketAt(ticket).isLate();
    }

    public int writeLine(int ticket) throws IndexOutOfBoundsException {
        Ticket told = ticketAt(ticket);
        line.setLength(0);
        line.append("ticket ");
        line.append(told.number);
        line.append(": ");
        line.append(stateText(told));
        if (told.state == JOINED && told.parent != null) {
            line.append(told.parent.number);
        }
        if (told.state == SOLVED) {
            line.append(solverText(told));
        }
        if (told.isLate()) {
            line.append(", late");
        }
        return line.length();
    }

    public char lineAt(int index) throws IndexOutOfBoundsException {
        if (index < 0 || index >= line.length()) {
            throw new IndexOutOfBoundsException("no such character");
        }
        return line.charAt(index);
    }

    public double meanClock() throws ArithmeticException {
        int sum = 0;
        int solved = 0;
        for (int i = 0; i < tickets.size(); i++) {
            Ticket ticket = tickets.get(i);
            if (ticket.state == SOLVED) {
                sum += ticket.minutes;
                solved++;
            }
        }
        if (solved == 0) {
            throw new ArithmeticException("no ticket is solved");
        }
        return (double) sum / (double) solved;
    }

    public float brokenShare() throws ArithmeticException {
        int all = tickets.size();
        if (all == 0) {
            throw new ArithmeticException("there are no tickets");
        }
        int broken = 0;
        for (int i = 0; i < all; i++) {
            if (tickets.get(i).isLate()) {
                broken++;
            }
        }
        return (float) broken / (float) all;
    }

    public boolean isConsistent() {
        return doBothWaysAgree() && areReservationsRight() && doPeopleWorkApart();
    }

    // ---- looking up

    private static boolean isKind(int part) {
        return part >= 0 && part < KINDS_OF_PARTS;
    }

    private Stock stockAt(int part) {
        if (!isKind(part) || part >= stocks.size()) {
            throw new IndexOutOfBoundsException("no such kind of part");
        }
        return stocks.get(part);
    }

    private Cause causeAt(int cause) {
        if (cause < 0 || cause >= causes.size()) {
            throw new IndexOutOfBoundsException("no such cause");
        }
        return causes.get(cause);
    }

    private Person personAt(int person) {
        if (person < 0 || person >= people.size()) {
            throw new IndexOutOfBoundsException("no such person");
        }
        return people.get(person);
    }

    private Ticket ticketAt(int ticket) {
        if (ticket < 0 || ticket >= tickets.size()) {
            throw new IndexOutOfBoundsException("no such ticket");
        }
        return tickets.get(ticket);
    }

    private static int numberOf(Cause cause) {
        if (cause == null) {
            throw new NoSuchElementException("the ticket has no cause");
        }
        return cause.number;
    }

    // ---- words

    /** Empties the text buffer into its words, those that come twice twice. */
    private ArrayList<Word> takeWords() {
        String text = typed.toString();
        typed.setLength(0);
        ArrayList<Word> words = new ArrayList<>();
        int start = 0;
        for (int i = 0; i <= text.length(); i++) {
            if (i == text.length() || text.charAt(i) == ' ') {
                if (start < i) {
                    words.add(new Word(text.substring(start, i)));
                }
                start = i + 1;
            }
        }
        return words;
    }

    // ---- causes

    /** Keywords and changes are only ever added, so their numbers tell which were there. */
    private void logOpening(Ticket opened) {
        opened.openedAt = time;
        opened.changesThen = changes.size();
        for (int i = 0; i < causes.size(); i++) {
            opened.keywordsThen.add(causes.get(i).keywords.size());
        }
    }

    private Cause findCause(Ticket ticket) {
        Cause best = null;
        int most = 0;
        for (int i = 0; i < ticket.keywordsThen.size() && i < causes.size(); i++) {
            Cause cause = causes.get(i);
            int score = cause.keywords.countIn(ticket.text, ticket.keywordsThen.get(i));
            if (wasRaised(cause, ticket)) {
                score++;
            }
            if (score > most) {
                best = cause;
                most = score;
            }
        }
        return best;
    }

    private boolean wasRaised(Cause cause, Ticket ticket) {
        for (int i = 0; i < ticket.changesThen && i < changes.size(); i++) {
            Change change = changes.get(i);
            if (!change.isHushing && change.cause == cause && change.goesOnAt(ticket.openedAt)) {
                return true;
            }
        }
        return false;
    }

    // ---- states

    private Change hushingChange(Cause cause) {
        for (int i = 0; i < changes.size(); i++) {
            Change change = changes.get(i);
            if (change.isHushing && change.cause == cause && change.goesOnAt(time)) {
                return change;
            }
        }
        return null;
    }

    private static Page pageFor(Ticket ticket) {
        return ticket.cause == null ? null : ticket.cause.page;
    }

    private static char firstState(Ticket opened) {
        if (opened.hushing != null) {
            return HUSHED;
        }
        Page page = pageFor(opened);
        return page != null && page.canAnswer() ? ANSWERED : OPEN;
    }

    /** All states are entered here, so that the log has each time a clock began or stopped. */
    private void enter(Ticket ticket, char state, int at) {
        ticket.state = state;
        ticket.logClock(at);
        for (int i = 0; i < tickets.size(); i++) {
            Ticket other = tickets.get(i);
            if (other.parent == ticket) {
                other.logClock(at);
            }
        }
    }

    private int countJoinedTo(Ticket parent) {
        int joined = 0;
        for (int i = 0; i < tickets.size(); i++) {
            if (tickets.get(i).parent == parent) {
                joined++;
            }
        }
        return joined;
    }

    /** Returns how many tickets were solved: the ticket and those that are joined to it. */
    private int solve(Ticket ticket, char solver, int at) {
        int solved = 1;
        ticket.solver = solver;
        ticket.giveUpPart(solver == BY_PERSON);
        enter(ticket, SOLVED, at);
        for (int i = 0; i < tickets.size(); i++) {
            Ticket other = tickets.get(i);
            if (other.parent == ticket) {
                other.solver = solver;
                other.giveUpPart(false);
                enter(other, SOLVED, at);
                solved++;
            }
        }
        return solved;
    }

    private static void reservePart(Ticket ticket) {
        if (ticket.lacksPart() && ticket.cause != null) {
            Stock stock = ticket.cause.part;
            if (stock != null && stock.unreserved() > 0) {
                stock.reserved++;
                ticket.part = stock;
            }
        }
    }

    // ---- minutes

    private int passMinute() {
        runClocks();
        int solved = 0;
        for (int i = 0; i < people.size(); i++) {
            solved += workMinute(people.get(i));
        }
        time++;
        for (int i = 0; i < changes.size(); i++) {
            Change change = changes.get(i);
            if (change.to == time) {
                solved += end(change);
            }
        }
        return solved;
    }

    private void runClocks() {
        for (int i = 0; i < tickets.size(); i++) {
            Ticket ticket = tickets.get(i);
            if (ticket.isRunning()) {
                ticket.minutes++;
            }
        }
    }

    private int workMinute(Person worker) {
        Ticket ticket = worker.ticket;
        if (ticket == null || !worker.hasShiftAt(time)) {
            return 0;
        }
        worker.worked++;
        if (worker.worked < ticket.work()) {
            return 0;
        }
        worker.ticket = null;
        Page page = pageFor(ticket);
        if (page != null) {
            page.changeTrust(TRUST_BY_WORK);
        }
        // the clock has run in this minute, which is not over yet
        return solve(ticket, BY_PERSON, time + 1);
    }

    private int end(Change change) {
        int solved = 0;
        for (int i = 0; i < tickets.size(); i++) {
            Ticket ticket = tickets.get(i);
            if (ticket.state == HUSHED && ticket.hushing == change) {
                if (change.hasFailed) {
                    enter(ticket, OPEN, time);
                } else {
                    solved += solve(ticket, BY_CHANGE, time);
                }
            }
        }
        return solved;
    }

    // ---- the line

    private static String stateText(Ticket ticket) {
        switch (ticket.state) {
            case OPEN:
                return "open";
            case WORKED_ON:
                return "in work";
            case ANSWERED:
                return "answered";
            case HUSHED:
                return "hushed";
            case JOINED:
                return "joined to ";
            default:
                return "solved by a ";
        }
    }

    private static String solverText(Ticket ticket) {
        switch (ticket.solver) {
            case BY_PERSON:
                return "person";
            case BY_PAGE:
                return "page";
            default:
                return "change";
        }
    }

    // ---- invariants

    private boolean doBothWaysAgree() {
        for (int i = 0; i < tickets.size(); i++) {
            Ticket ticket = tickets.get(i);
            if (ticket.minutes != ticket.loggedMinutes(time)) {
                return false;
            }
            if (ticket.cause != findCause(ticket)) {
                return false;
            }
        }
        return true;
    }

    private boolean areReservationsRight() {
        for (int i = 0; i < stocks.size(); i++) {
            Stock stock = stocks.get(i);
            int reservations = 0;
            for (int k = 0; k < tickets.size(); k++) {
                if (tickets.get(k).part == stock) {
                    reservations++;
                }
            }
            if (reservations != stock.reserved) {
                return false;
            }
        }
        return true;
    }

    private boolean doPeopleWorkApart() {
        for (int i = 0; i < people.size(); i++) {
            Ticket ticket = people.get(i).ticket;
            for (int k = 0; k < i; k++) {
                if (ticket != null && people.get(k).ticket == ticket) {
                    return false;
                }
            }
        }
        return true;
    }

    private static final class Word {
        private final String letters;

        Word(String letters) {
            this.letters = letters;
        }

        boolean isSameAs(Word other) {
            return letters.equals(other.letters);
        }
    }

    /** Different words, in the order in which they came. */
    private static final class WordSet {
        private final ArrayList<Word> words = new ArrayList<>();

        WordSet(ArrayList<Word> content) {
            for (int i = 0; i < content.size(); i++) {
                include(content.get(i));
            }
        }

        int size() {
            return words.size();
        }

        void include(Word word) {
            if (!has(word)) {
                words.add(word);
            }
        }

        boolean has(Word word) {
            for (int i = 0; i < words.size(); i++) {
                if (words.get(i).isSameAs(word)) {
                    return true;
                }
            }
            return false;
        }

        /** Counts those of the first words of this set that the other set has too. */
        int countIn(WordSet other, int first) {
            int count = 0;
            for (int i = 0; i < first && i < words.size(); i++) {
                if (other.has(words.get(i))) {
                    count++;
                }
            }
            return count;
        }
    }

    private static final class Cause {
        private final int number;
        private final int work;
        private final Stock part;
        private final WordSet keywords = new WordSet(new ArrayList<>());
        private Page page = null;

        Cause(int number, int work, Stock part) {
            this.number = number;
            this.work = work;
            this.part = part;
        }
    }

    private static final class Page {
        private int trust = FIRST_TRUST;

        void changeTrust(int difference) {
            trust = Math.max(0, Math.min(MOST_TRUST, trust + difference));
        }

        boolean canAnswer() {
            return trust >= TRUST_TO_ANSWER;
        }
    }

    /** The parts of one kind, reserved ones included. */
    private static final class Stock {
        private int count = 0;
        private int reserved = 0;

        int unreserved() {
            return count - reserved;
        }
    }

    private static final class Person {
        private final int skills;
        private final int from;
        private final int to;
        private Ticket ticket = null;
        private int worked = 0;

        Person(int skills, int from, int to) {
            this.skills = skills;
            this.from = from;
            this.to = to;
        }

        boolean hasShiftAt(int minute) {
            int minuteOfDay = minute % DAY;
            return from <= minuteOfDay && minuteOfDay < to;
        }

        boolean hasSkillFor(Cause cause) {
            return cause == null || (skills >> cause.number & 1) == 1;
        }
    }

    private static final class Change {
        private final Cause cause;
        private final int from;
        private final int to;
        private final boolean isHushing;
        private boolean hasFailed = false;

        Change(Cause cause, int from, int to, boolean isHushing) {
            this.cause = cause;
            this.from = from;
            this.to = to;
            this.isHushing = isHushing;
        }

        boolean goesOnAt(int minute) {
            return from <= minute && minute < to;
        }
    }

    private static final class Ticket {
        private final int number;
        private final int promise;
        private final WordSet text;
        private int openedAt = 0;
        private int changesThen = 0;
        private final ArrayList<Integer> keywordsThen = new ArrayList<>();
        private Cause cause = null;
        private Change hushing = null;
        private Stock part = null;
        private Ticket parent = null;
        private char state = OPEN;
        private char solver = BY_NOBODY;
        private int minutes = 0;
        /** The times at which the clock began to run and stopped, in turns. */
        private final ArrayList<Integer> turns = new ArrayList<>();

        Ticket(int number, int promise, WordSet text) {
            this.number = number;
            this.promise = promise;
            this.text = text;
        }

        int likenessTo(Ticket other) {
            return text.countIn(other.text, text.size());
        }

        int work() {
            return cause == null ? WORK_WITHOUT_CAUSE : cause.work;
        }

        boolean lacksPart() {
            return cause != null && cause.part != null && part == null;
        }

        void giveUpPart(boolean isUsedUp) {
            if (part != null) {
                part.reserved--;
                if (isUsedUp) {
                    part.count--;
                }
                part = null;
            }
        }

        boolean isRunning() {
            char leading = state == JOINED && parent != null ? parent.state : state;
            return leading == OPEN || leading == WORKED_ON;
        }

        void logClock(int at) {
            boolean wasRunning = turns.size() % 2 == 1;
            if (isRunning() != wasRunning) {
                turns.add(at);
            }
        }

        int loggedMinutes(int until) {
            int sum = 0;
            for (int i = 0; i < turns.size(); i += 2) {
                int began = turns.get(i);
                int stopped = i + 1 < turns.size() ? turns.get(i + 1) : until;
                sum += stopped - began;
            }
            return sum;
        }

        boolean isLate() {
            return minutes > promise;
        }

        int promiseLeft() {
            return promise - minutes;
        }
    }
}

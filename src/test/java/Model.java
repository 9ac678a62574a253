import java.util.ArrayList;
import java.util.Arrays;
import java.util.BitSet;
import java.util.LinkedHashSet;
import java.util.List;
import java.util.NoSuchElementException;
import java.util.Set;

/**
 * The document told a second time, in the dearest way: each minute of each clock is kept, and
 * all numbers of parts are counted from what has happened. The tests compare it with the class.
 */
public final class Model {
    private static final class Change {
        int cause;
        int from;
        int to;
        boolean isHushing;
        boolean hasFailed;
    }

    private static final class Ticket {
        int promise;
        Set<String> words;
        int cause = -1;
        int hushedBy = -1;
        int parent = -1;
        int worker = -1;
        int workedMinutes;
        boolean isAnswered;
        boolean isReserved;
        char solver = 0;
        final BitSet ran = new BitSet();
    }

    private String buffer = "";
    private String line = "";
    private int now = 0;
    private final List<Integer> promises = new ArrayList<>();
    private final List<int[]> causes = new ArrayList<>();
    private final List<Set<String>> keywords = new ArrayList<>();
    private final List<Integer> pageCauses = new ArrayList<>();
    private final List<Integer> trusts = new ArrayList<>();
    private final List<int[]> people = new ArrayList<>();
    private final List<Change> changes = new ArrayList<>();
    private final List<Ticket> tickets = new ArrayList<>();
    private final int[] added = new int[5];
    private final int[] used = new int[5];

    private static void index(int number, int size) {
        if (number < 0 || number >= size) {
            throw new IndexOutOfBoundsException();
        }
    }

    private static void argument(boolean isRight) {
        if (!isRight) {
            throw new IllegalArgumentException();
        }
    }

    private static void standing(boolean isRight) {
        if (!isRight) {
            throw new IllegalStateException();
        }
    }

    private static void found(boolean isThere) {
        if (!isThere) {
            throw new NoSuchElementException();
        }
    }

    private Ticket at(int ticket) {
        index(ticket, tickets.size());
        return tickets.get(ticket);
    }

    private List<String> take() {
        String text = buffer.strip();
        buffer = "";
        return text.isEmpty() ? List.of() : Arrays.asList(text.split(" +"));
    }

    public int type(char character) {
        argument("abcdefghijklmnopqrstuvwxyz ".indexOf(character) >= 0);
        standing(buffer.length() != 40);
        buffer += character;
        return buffer.length();
    }

    public int addCustomer(int promise) {
        argument(1 <= promise && promise <= 5000);
        standing(promises.size() < 5);
        promises.add(promise);
        return promises.size() - 1;
    }

    public int addCause(int work, int part) {
        argument(1 <= work && work <= 600 && -1 <= part && part <= 4);
        standing(causes.size() < 8);
        causes.add(new int[] {work, part});
        keywords.add(new LinkedHashSet<>());
        return causes.size() - 1;
    }

    public int addKeyword(int cause) {
        List<String> words = take();
        index(cause, causes.size());
        argument(words.size() == 1 && !keywords.get(cause).contains(words.get(0)));
        standing(keywords.get(cause).size() < 3);
        keywords.get(cause).add(words.get(0));
        return keywords.get(cause).size();
    }

    public int addPage(int cause) {
        index(cause, causes.size());
        standing(!pageCauses.contains(cause));
        pageCauses.add(cause);
        trusts.add(50);
        return trusts.size() - 1;
    }

    public int addPerson(int skills, int from, int to) {
        argument((skills & 255) == skills && from >= 0 && from <= 1439 && to > from && to <= 1440);
        standing(people.size() < 6);
        people.add(new int[] {skills, from, to});
        return people.size() - 1;
    }

    public int addStock(int part, int count) {
        index(part, 5);
        argument(1 <= count && count <= 50);
        added[part] += count;
        return added[part] - used[part];
    }

    public int planChange(int cause, int from, int to, boolean isHushing) {
        index(cause, causes.size());
        argument(from >= now && to > from && to <= 20000);
        standing(changes.size() < 6);
        Change change = new Change();
        change.cause = cause;
        change.from = from;
        change.to = to;
        change.isHushing = isHushing;
        changes.add(change);
        return changes.size() - 1;
    }

    public boolean failChange(int change) {
        index(change, changes.size());
        Change failed = changes.get(change);
        standing(!failed.hasFailed && now < failed.to);
        failed.hasFailed = true;
        return now >= failed.from;
    }

    private int found(Set<String> words) {
        int[] scores = new int[causes.size()];
        for (int i = 0; i < scores.length; i++) {
            Set<String> both = new LinkedHashSet<>(keywords.get(i));
            both.retainAll(words);
            scores[i] = both.size() + (goingOn(i, false) >= 0 ? 1 : 0);
        }
        int greatest = Arrays.stream(scores).max().orElse(0);
        for (int i = 0; greatest > 0; i++) {
            if (scores[i] == greatest) {
                return i;
            }
        }
        return -1;
    }

    private int goingOn(int cause, boolean isHushing) {
        for (int i = 0; i < changes.size(); i++) {
            Change each = changes.get(i);
            if (each.cause == cause && each.isHushing == isHushing && each.from <= now && now < each.to) {
                return i;
            }
        }
        return -1;
    }

    public int open(int customer) {
        List<String> words = take();
        index(customer, promises.size());
        argument(words.size() > 0);
        standing(tickets.size() < 40);
        Ticket ticket = new Ticket();
        ticket.promise = promises.get(customer);
        ticket.words = new LinkedHashSet<>(words);
        ticket.cause = found(ticket.words);
        tickets.add(ticket);
        if (ticket.cause >= 0) {
            int part = causes.get(ticket.cause)[1];
            ticket.isReserved = part >= 0 && free(part) > 0;
            ticket.hushedBy = goingOn(ticket.cause, true);
            int page = pageCauses.indexOf(ticket.cause);
            ticket.isAnswered = ticket.hushedBy < 0 && page >= 0 && trusts.get(page) >= 70;
        }
        return tickets.size() - 1;
    }

    public char state(int ticket) {
        Ticket t = at(ticket);
        if (t.solver != 0) {
            return 's';
        }
        if (t.parent >= 0) {
            return 'j';
        }
        return t.hushedBy >= 0 ? 'h' : t.isAnswered ? 'a' : t.worker >= 0 ? 'w' : 'o';
    }

    public int cause(int ticket) {
        int cause = at(ticket).cause;
        found(cause >= 0);
        return cause;
    }

    public int causeFromLog(int ticket) {
        return cause(ticket);
    }

    public int likeness(int ticket, int other) {
        at(other);
        Set<String> both = new LinkedHashSet<>(at(ticket).words);
        both.retainAll(at(other).words);
        return both.size();
    }

    public int mostLike(int ticket) {
        at(ticket);
        for (int likeness = 20; likeness >= 1; likeness--) {
            for (int i = 0; i < tickets.size(); i++) {
                if (i != ticket && state(i) != 's' && likeness(i, ticket) == likeness) {
                    return i;
                }
            }
        }
        throw new NoSuchElementException();
    }

    private List<Integer> children(int parent) {
        List<Integer> children = new ArrayList<>();
        for (int i = 0; i < tickets.size(); i++) {
            if (tickets.get(i).parent == parent) {
                children.add(i);
            }
        }
        return children;
    }

    public int join(int ticket, int parent) {
        at(ticket);
        at(parent);
        argument(ticket != parent);
        standing(state(ticket) == 'o' && children(ticket).isEmpty());
        standing("js".indexOf(state(parent)) < 0);
        at(ticket).parent = parent;
        return children(parent).size();
    }

    public int parentOf(int ticket) {
        int parent = at(ticket).parent;
        found(parent >= 0);
        return parent;
    }

    private int solve(int ticket, char solver) {
        Ticket t = at(ticket);
        if (t.isReserved && solver == 'p') {
            used[causes.get(t.cause)[1]]++;
        }
        t.isReserved = false;
        t.solver = solver;
        for (int child : children(ticket)) {
            at(child).solver = solver;
            at(child).isReserved = false;
        }
        return 1 + children(ticket).size();
    }

    public boolean confirm(int ticket, boolean hasHelped) {
        Ticket t = at(ticket);
        standing(state(ticket) == 'a');
        int page = pageCauses.indexOf(t.cause);
        int trust = trusts.get(page);
        if (hasHelped) {
            trusts.set(page, trust > 95 ? 100 : trust + 5);
            solve(ticket, 'g');
        } else {
            trusts.set(page, trust < 10 ? 0 : trust - 10);
            t.isAnswered = false;
        }
        return trusts.get(page) >= 70;
    }

    private int workedBy(int person) {
        for (int i = 0; i < tickets.size(); i++) {
            if (tickets.get(i).worker == person && tickets.get(i).solver == 0) {
                return i;
            }
        }
        return -1;
    }

    private int work(Ticket t) {
        return t.cause < 0 ? 30 : causes.get(t.cause)[0];
    }

    public int assign(int ticket, int person) {
        Ticket t = at(ticket);
        index(person, people.size());
        standing(state(ticket) == 'o' && workedBy(person) < 0);
        if (t.cause >= 0) {
            int part = causes.get(t.cause)[1];
            boolean isAble = (people.get(person)[0] & 1 << t.cause) != 0;
            if (!isAble || part >= 0 && !t.isReserved && free(part) == 0) {
                throw new UnsupportedOperationException();
            }
            t.isReserved = part >= 0;
        }
        t.worker = person;
        t.workedMinutes = 0;
        return work(t);
    }

    public int letGo(int person) {
        index(person, people.size());
        standing(workedBy(person) >= 0);
        Ticket t = at(workedBy(person));
        t.worker = -1;
        return t.workedMinutes;
    }

    public char solvedBy(int ticket) {
        char solver = at(ticket).solver;
        found(solver != 0);
        return solver;
    }

    public int nextTicket() {
        int next = -1;
        for (int i = tickets.size() - 1; i >= 0; i--) {
            if (state(i) == 'o' && (next < 0 || left(i) <= left(next))) {
                next = i;
            }
        }
        found(next >= 0);
        return next;
    }

    private int left(int ticket) {
        return at(ticket).promise - clock(ticket);
    }

    public int workOf(int person) {
        index(person, people.size());
        found(workedBy(person) >= 0);
        return workedBy(person);
    }

    public int minutesLeft(int person) {
        Ticket t = at(workOf(person));
        return work(t) - t.workedMinutes;
    }

    public boolean isOnShift(int person) {
        index(person, people.size());
        int[] shift = people.get(person);
        int minute = now - now / 1440 * 1440;
        return minute >= shift[1] && minute < shift[2];
    }

    public int free(int part) {
        index(part, 5);
        return added[part] - used[part] - reserved(part);
    }

    public int reserved(int part) {
        index(part, 5);
        int reserved = 0;
        for (Ticket t : tickets) {
            reserved += t.isReserved && causes.get(t.cause)[1] == part ? 1 : 0;
        }
        return reserved;
    }

    public int trust(int page) {
        index(page, trusts.size());
        return trusts.get(page);
    }

    public int now() {
        return now;
    }

    public int pass(int minutes) {
        argument(1 <= minutes && minutes <= 1000);
        standing(now + minutes <= 20000);
        int solved = 0;
        for (int end = now + minutes; now < end;) {
            solved += minute();
        }
        return solved;
    }

    private boolean runs(int ticket) {
        char state = state(ticket);
        return state == 'o' || state == 'w' || state == 'j' && runs(at(ticket).parent);
    }

    private int minute() {
        for (int i = 0; i < tickets.size(); i++) {
            if (runs(i)) {
                tickets.get(i).ran.set(now);
            }
        }
        int solved = 0;
        for (int i = 0; i < people.size(); i++) {
            int ticket = workedBy(i);
            if (ticket >= 0 && isOnShift(i)) {
                solved += workOn(ticket);
            }
        }
        now++;
        for (int i = 0; i < changes.size(); i++) {
            for (int k = 0; k < tickets.size() && changes.get(i).to == now; k++) {
                solved += endHush(i, k);
            }
        }
        return solved;
    }

    private int workOn(int ticket) {
        Ticket t = at(ticket);
        t.workedMinutes++;
        if (t.workedMinutes != work(t)) {
            return 0;
        }
        int page = pageCauses.indexOf(t.cause);
        if (page >= 0) {
            trusts.set(page, Math.min(trusts.get(page) + 10, 100));
        }
        return solve(ticket, 'p');
    }

    private int endHush(int change, int ticket) {
        Ticket t = at(ticket);
        if (t.hushedBy != change || t.solver != 0) {
            return 0;
        }
        if (!changes.get(change).hasFailed) {
            return solve(ticket, 'c');
        }
        t.hushedBy = -1;
        return 0;
    }

    public int clock(int ticket) {
        return at(ticket).ran.cardinality();
    }

    public int clockFromLog(int ticket) {
        return clock(ticket);
    }

    public boolean isBroken(int ticket) {
        return left(ticket) < 0;
    }

    public int writeLine(int ticket) {
        at(ticket);
        String text = switch (state(ticket)) {
            case 'o' -> "open";
            case 'w' -> "in work";
            case 'a' -> "answered";
            case 'h' -> "hushed";
            case 'j' -> "joined to " + parentOf(ticket);
            default -> "solved by a " + switch (solvedBy(ticket)) {
                case 'p' -> "person";
                case 'g' -> "page";
                default -> "change";
            };
        };
        line = "ticket " + ticket + ": " + text + (isBroken(ticket) ? ", late" : "");
        return line.length();
    }

    public char lineAt(int index) {
        index(index, line.length());
        return line.charAt(index);
    }

    public double meanClock() {
        List<Integer> clocks = new ArrayList<>();
        for (int i = 0; i < tickets.size(); i++) {
            if (state(i) == 's') {
                clocks.add(clock(i));
            }
        }
        if (clocks.isEmpty()) {
            throw new ArithmeticException();
        }
        return (double) clocks.stream().mapToInt(Integer::intValue).sum() / clocks.size();
    }

    public float brokenShare() {
        if (tickets.isEmpty()) {
            throw new ArithmeticException();
        }
        int broken = 0;
        for (int i = 0; i < tickets.size(); i++) {
            broken += isBroken(i) ? 1 : 0;
        }
        return (float) broken / tickets.size();
    }

    public boolean isConsistent() {
        return true;
    }
}

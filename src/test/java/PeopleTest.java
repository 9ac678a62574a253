import java.util.NoSuchElementException;

/** Promises 24 to 29: people, parts and pages. */
final class PeopleTest {
    private static final Class<IndexOutOfBoundsException> INDEX = IndexOutOfBoundsException.class;
    private static final Class<NoSuchElementException> NONE = NoSuchElementException.class;

    private PeopleTest() {
    }

    static void run() {
        noNumbers();
        work();
        shifts();
        workInShifts();
        parts();
        partsOfHushed();
        trust();
    }

    private static void noNumbers() {
        DeskExchange x = Desk.promising(9);
        x.addPerson(0, 0, 1440);
        x.addCause(1, -1);
        x.addPage(0);
        for (int i : new int[] {-1, 1, 6, 8, Integer.MAX_VALUE, Integer.MIN_VALUE}) {
            Check.throwsJust("24 no person", INDEX, () -> x.workOf(i));
            Check.throwsJust("25 no person", INDEX, () -> x.minutesLeft(i));
            Check.throwsJust("26 no person", INDEX, () -> x.isOnShift(i));
            Check.throwsJust("29 no page", INDEX, () -> x.trust(i));
        }
        for (int i : new int[] {-1, 5, Integer.MAX_VALUE, Integer.MIN_VALUE}) {
            Check.throwsJust("27 no kind", INDEX, () -> x.free(i));
            Check.throwsJust("28 no kind", INDEX, () -> x.reserved(i));
        }
        Check.throwsJust("24 works on none", NONE, () -> x.workOf(0));
        Check.throwsJust("25 works on none", NONE, () -> x.minutesLeft(0));
    }

    private static void work() {
        DeskExchange x = Desk.promising(9);
        Desk.cause(x, 3, -1, "fan");
        x.addPerson(1, 0, 1440);
        x.addPerson(1, 0, 1440);
        Desk.open(x, 0, "a");
        Desk.open(x, 0, "fan");
        x.assign(1, 0);
        x.assign(0, 1);
        Check.equal("24 workOf", x.workOf(0), 1);
        Check.equal("24 workOf", x.workOf(1), 0);
        Check.equal("25 at first", x.minutesLeft(0), 3);
        Check.equal("31 none is solved", x.pass(2), 0);
        Check.equal("25 then", x.minutesLeft(0), 1);
        Check.equal("25 the other", x.minutesLeft(1), 28);
        Check.equal("31 one is solved", x.pass(1), 1);
        Check.throwsJust("24 is done", NONE, () -> x.workOf(0));
        Check.throwsJust("25 is done", NONE, () -> x.minutesLeft(0));
        x.letGo(1);
        Check.throwsJust("24 is let go", NONE, () -> x.workOf(1));
        Check.throwsJust("25 is let go", NONE, () -> x.minutesLeft(1));
        x.assign(0, 0);
        Check.equal("25 of a new work", x.minutesLeft(0), 30);
    }

    private static void shifts() {
        DeskExchange x = new DeskExchange();
        x.addPerson(0, 2, 5);
        x.addPerson(0, 0, 1);
        x.addPerson(0, 1439, 1440);
        x.addPerson(0, 0, 1440);
        boolean[] due = {false, false, true, true, true, false, false};
        for (int i = 0; i < due.length; i++) {
            Check.equal("26 minute " + i, x.isOnShift(0), due[i]);
            Check.equal("26 the first minute alone", x.isOnShift(1), i == 0);
            Check.equal("26 the last minute alone", x.isOnShift(2), false);
            Check.equal("26 always", x.isOnShift(3), true);
            x.pass(1);
        }
        x.pass(1000);
        x.pass(431);
        Check.equal("26 minute 1438", x.isOnShift(2), false);
        x.pass(1);
        Check.equal("26 minute 1439", x.isOnShift(2), true);
        Check.equal("26 minute 1439", x.isOnShift(1), false);
        x.pass(1);
        Check.equal("26 a new day", x.isOnShift(1), true);
        Check.equal("26 a new day", x.isOnShift(2), false);
        x.pass(2);
        Check.equal("26 on the second day", x.isOnShift(0), true);
    }

    private static void workInShifts() {
        DeskExchange x = Desk.promising(1441);
        Desk.cause(x, 12, -1, "fan");
        x.addPerson(1, 5, 15);
        Desk.open(x, 0, "fan");
        x.assign(0, 0);
        x.pass(5);
        Check.equal("25 ahead of the shift", x.minutesLeft(0), 12);
        x.pass(3);
        Check.equal("25 in the shift", x.minutesLeft(0), 9);
        x.pass(400);
        Check.equal("25 behind it", x.minutesLeft(0), 2);
        Check.equal("32 the clock runs all the while", x.clock(0), 408);
        x.pass(1000);
        Check.equal("25 the next day", x.minutesLeft(0), 2);
        x.pass(38);
        Check.equal("25 the next day's shift", x.minutesLeft(0), 1);
        Check.equal("31 solved", x.pass(1), 1);
        Check.equal("32 the minute of the solving counts", x.clock(0), 1447);
        Check.equal("33 also in the log", x.clockFromLog(0), 1447);
        Check.equal("34 broken", x.isBroken(0), true);
    }

    private static void parts() {
        DeskExchange x = Desk.promising(9);
        Desk.cause(x, 1, 1, "fan");
        x.addPerson(1, 0, 1440);
        x.addStock(1, 3);
        Desk.open(x, 0, "fan");
        Desk.open(x, 0, "fan");
        Check.equal("27 free", x.free(1), 1);
        Check.equal("28 reserved", x.reserved(1), 2);
        x.assign(0, 0);
        Check.equal("28 not twice", x.reserved(1), 2);
        x.pass(1);
        Check.equal("27 used up", x.free(1), 1);
        Check.equal("28 used up", x.reserved(1), 1);
        Check.equal("27 another kind", x.free(0), 0);
        Check.equal("28 another kind", x.reserved(2), 0);
        Check.isTrue("39 isConsistent", x.isConsistent());
    }

    private static void partsOfHushed() {
        DeskExchange x = Desk.promising(9);
        Desk.cause(x, 1, 1, "fan");
        x.addStock(1, 3);
        x.planChange(0, 0, 4, true);
        Desk.open(x, 0, "fan");
        Desk.open(x, 0, "fan");
        Check.equal("28 hushed ones have parts", x.reserved(1), 2);
        Check.equal("31 solved", x.pass(4), 2);
        Check.equal("28 that are not reserved then", x.reserved(1), 0);
        Check.equal("27 but free", x.free(1), 3);
        x.planChange(0, 4, 6, true);
        Desk.open(x, 0, "fan");
        x.failChange(1);
        Check.equal("31 not solved", x.pass(2), 0);
        Check.equal("28 stays reserved", x.reserved(1), 1);
        Check.equal("12 is open", x.state(2), 'o');
    }

    private static void trust() {
        DeskExchange x = Desk.promising(9);
        Desk.cause(x, 1, -1, "fan");
        Desk.cause(x, 1, -1, "key");
        x.addPerson(3, 0, 1440);
        Desk.open(x, 0, "fan");
        x.addPage(1);
        x.addPage(0);
        for (int i = 1; i < 6; i++) {
            Desk.open(x, 0, "fan");
        }
        Desk.open(x, 0, "else");
        int[] due = {60, 70, 80, 90, 100, 100};
        for (int i = 0; i < due.length; i++) {
            x.assign(i, 0);
            x.pass(1);
            Check.equal("29 by work", x.trust(1), due[i]);
        }
        x.assign(6, 0);
        x.pass(30);
        Check.equal("29 by other work", x.trust(1), 100);
        Check.equal("29 the other page", x.trust(0), 50);
        x.planChange(1, 36, 37, true);
        Desk.open(x, 0, "key");
        x.pass(1);
        Check.equal("22 by a change", x.solvedBy(7), 'c');
        Check.equal("29 not by a change", x.trust(0), 50);
    }
}

/** Promises 30 to 39: time, clocks and figures. */
final class TimeTest {
    private static final Class<IllegalArgumentException> ARGUMENT = IllegalArgumentException.class;
    private static final Class<IllegalStateException> STATE = IllegalStateException.class;
    private static final Class<IndexOutOfBoundsException> INDEX = IndexOutOfBoundsException.class;
    private static final Class<ArithmeticException> ARITHMETIC = ArithmeticException.class;

    private TimeTest() {
    }

    static void run() {
        passing();
        solvedInMinutes();
        clocks();
        joinedWhileHushed();
        changesEnd();
        broken();
        lines();
        means();
        shares();
    }

    private static void passing() {
        DeskExchange x = new DeskExchange();
        for (int minutes : new int[] {0, -1, 1001, Integer.MAX_VALUE, Integer.MIN_VALUE}) {
            Check.throwsJust("31 pass " + minutes, ARGUMENT, () -> x.pass(minutes));
        }
        Check.equal("31 one", x.pass(1), 0);
        Check.equal("30 one", x.now(), 1);
        Check.equal("31 a thousand", x.pass(1000), 0);
        Check.equal("30 a thousand and one", x.now(), 1001);
        for (int i = 0; i < 18; i++) {
            x.pass(1000);
        }
        Check.throwsJust("31 20001", STATE, () -> x.pass(1000));
        Check.equal("30 has not changed", x.now(), 19001);
        x.pass(999);
        Check.equal("30 the last", x.now(), 20000);
        Check.throwsJust("31 no more", STATE, () -> x.pass(1));
        Check.throwsJust("31 range ahead of no more", ARGUMENT, () -> x.pass(0));
        Check.throwsJust("31 range ahead of no more", ARGUMENT, () -> x.pass(1001));
    }

    private static void solvedInMinutes() {
        DeskExchange x = Desk.promising(9);
        Desk.cause(x, 3, -1, "fan");
        Desk.cause(x, 3, -1, "key");
        x.addPerson(1, 0, 1440);
        x.addPerson(1, 0, 1440);
        x.planChange(1, 0, 3, true);
        x.planChange(1, 0, 5, true);
        Desk.open(x, 0, "fan");
        Desk.open(x, 0, "fan");
        Desk.open(x, 0, "key");
        Desk.open(x, 0, "else");
        x.join(3, 2);
        x.assign(0, 0);
        x.assign(1, 1);
        Check.equal("31 none", x.pass(2), 0);
        Check.equal("31 by people and a change, with a joined one", x.pass(3), 4);
        Check.equal("31 none again", x.pass(9), 0);
        Check.equal("32 of a worked one", x.clock(0), 3);
        Check.equal("32 of a hushed one", x.clock(2), 0);
    }

    private static void clocks() {
        DeskExchange x = Desk.promising(9);
        x.addPerson(0, 0, 10);
        Desk.open(x, 0, "a");
        Check.equal("32 at first", x.clock(0), 0);
        Check.equal("33 at first", x.clockFromLog(0), 0);
        x.pass(3);
        Desk.open(x, 0, "b");
        x.assign(0, 0);
        x.pass(20);
        x.letGo(0);
        x.pass(2);
        x.join(1, 0);
        x.pass(5);
        for (int i = 0; i < 2; i++) {
            Check.equal("32 clock", x.clock(i), 30 - 3 * i);
            Check.equal("33 clock", x.clockFromLog(i), 30 - 3 * i);
        }
        x.pass(1000);
        Check.equal("32 a thousand more", x.clock(0), 1030);
        Check.equal("33 a thousand more", x.clockFromLog(0), 1030);
        Check.isTrue("39 isConsistent", x.isConsistent());
    }

    private static void joinedWhileHushed() {
        DeskExchange x = Desk.promising(9);
        Desk.cause(x, 3, -1, "fan");
        x.addPerson(1, 0, 1440);
        x.planChange(0, 2, 12, true);
        x.failChange(0);
        Desk.open(x, 0, "else");
        x.pass(2);
        Desk.open(x, 0, "fan");
        x.pass(3);
        x.join(0, 1);
        x.pass(6);
        Check.equal("32 stands", x.clock(0), 5);
        Check.equal("31 not solved", x.pass(1), 0);
        Check.equal("12 open", x.state(1), 'o');
        Check.equal("12 joined", x.state(0), 'j');
        x.pass(4);
        Check.equal("32 runs again", x.clock(0), 9);
        Check.equal("32 its parent's", x.clock(1), 4);
        Check.equal("33 in two parts", x.clockFromLog(0), 9);
        x.assign(1, 0);
        Check.equal("31 solved", x.pass(3), 2);
        x.pass(9);
        Check.equal("32 is over", x.clock(0), 12);
        Check.equal("33 is over", x.clockFromLog(0), 12);
        Check.equal("33 its parent's", x.clockFromLog(1), 7);
        Check.isTrue("39 isConsistent", x.isConsistent());
    }

    private static void changesEnd() {
        DeskExchange x = Desk.promising(9);
        Desk.cause(x, 3, -1, "fan");
        Desk.cause(x, 3, -1, "key");
        x.planChange(0, 0, 5, true);
        x.planChange(1, 0, 5, true);
        Desk.open(x, 0, "fan");
        Desk.open(x, 0, "key");
        Desk.open(x, 0, "else");
        x.join(2, 0);
        x.failChange(1);
        Check.equal("31 not yet", x.pass(4), 0);
        Check.equal("12 hushed", "" + x.state(0) + x.state(1) + x.state(2), "hhj");
        Check.equal("31 the first and its joined one", x.pass(1), 2);
        Check.equal("12 solved and open", "" + x.state(0) + x.state(1) + x.state(2), "sos");
        x.pass(2);
        Check.equal("32 the clock of the other", x.clock(1), 2);
        Check.equal("33 the clock of the other", x.clockFromLog(1), 2);
        DeskExchange y = Desk.promising(9);
        Desk.cause(y, 3, -1, "fan");
        y.planChange(0, 0, 20000, true);
        Desk.open(y, 0, "fan");
        for (int i = 0; i < 19; i++) {
            y.pass(1000);
        }
        y.pass(999);
        Check.equal("31 the last minute", y.pass(1), 1);
        Check.equal("22 solved at 20000", y.solvedBy(0), 'c');
    }

    private static void broken() {
        DeskExchange x = Desk.promising(2);
        Desk.cause(x, 3, -1, "fan");
        x.planChange(0, 0, 50, true);
        Desk.open(x, 0, "a");
        Desk.open(x, 0, "fan");
        x.pass(2);
        Check.equal("34 just not", x.isBroken(0), false);
        x.pass(1);
        Check.equal("34 broken", x.isBroken(0), true);
        Check.equal("34 hushed", x.isBroken(1), false);
        x.join(0, 1);
        Check.equal("34 stays broken", x.isBroken(0), true);
        x.pass(47);
        Check.equal("34 also when it is solved", x.isBroken(0), true);
        Check.equal("34 solved in time", x.isBroken(1), false);
    }

    private static void lines() {
        DeskExchange x = Desk.promising(2);
        Check.throwsJust("36 empty", INDEX, () -> x.lineAt(0));
        Desk.cause(x, 1, -1, "fan");
        x.addPage(0);
        x.addPerson(1, 0, 1440);
        Desk.raiseTrust(x, 0, 0, "fan");
        Desk.open(x, 0, "fan");
        Check.equal("35", Desk.line(x, 2), "ticket 2: answered");
        x.confirm(2, true);
        Check.equal("35", Desk.line(x, 2), "ticket 2: solved by a page");
        Desk.open(x, 0, "else");
        Check.equal("35", Desk.line(x, 3), "ticket 3: open");
        x.assign(3, 0);
        Check.equal("35", Desk.line(x, 3), "ticket 3: in work");
        Desk.open(x, 0, "more");
        x.join(4, 3);
        Check.equal("35", Desk.line(x, 4), "ticket 4: joined to 3");
        x.pass(3);
        Check.equal("35", Desk.line(x, 4), "ticket 4: joined to 3, late");
        Check.equal("35", Desk.line(x, 3), "ticket 3: in work, late");
        x.pass(27);
        Check.equal("35", Desk.line(x, 4), "ticket 4: solved by a person, late");
        Check.equal("35", Desk.line(x, 0), "ticket 0: solved by a person");
        x.planChange(0, 32, 40, true);
        Desk.open(x, 0, "fan");
        Check.equal("35", Desk.line(x, 5), "ticket 5: hushed");
        x.pass(8);
        Check.equal("35", Desk.line(x, 5), "ticket 5: solved by a change");
        for (int i = 6; i < 12; i++) {
            Desk.open(x, 0, "a");
        }
        x.join(10, 11);
        Check.equal("35", Desk.line(x, 10), "ticket 10: joined to 11");
        linesStay(x);
    }

    private static void linesStay(DeskExchange x) {
        Check.equal("35 length", x.writeLine(11), 15);
        x.pass(3);
        x.type('z');
        Check.throwsJust("35 no ticket", INDEX, () -> x.writeLine(12));
        Check.equal("36 the first", x.lineAt(0), 't');
        Check.equal("36 the last", x.lineAt(14), 'n');
        for (int index : new int[] {-1, 15, 16, 40, Integer.MAX_VALUE, Integer.MIN_VALUE}) {
            Check.throwsJust("36 no character", INDEX, () -> x.lineAt(index));
        }
        Check.equal("35 a new line", Desk.line(x, 11), "ticket 11: open, late");
    }

    private static void means() {
        DeskExchange x = Desk.promising(2);
        Check.throwsJust("37 no ticket", ARITHMETIC, () -> x.meanClock());
        Desk.cause(x, 1, -1, "fan");
        x.addPerson(1, 0, 1440);
        Desk.open(x, 0, "fan");
        x.pass(7);
        Check.throwsJust("37 none is solved", ARITHMETIC, () -> x.meanClock());
        x.assign(0, 0);
        x.pass(1);
        Check.equal("37 one", x.meanClock(), 8.0);
        Desk.open(x, 0, "fan");
        x.assign(1, 0);
        x.pass(1);
        Check.equal("37 two", x.meanClock(), 4.5);
        Desk.open(x, 0, "fan");
        x.assign(2, 0);
        x.pass(1);
        Desk.open(x, 0, "a");
        x.pass(9);
        Check.equal("37 the solved ones alone", x.meanClock(), 10.0 / 3.0);
    }

    private static void shares() {
        DeskExchange x = Desk.promising(2);
        x.addCustomer(5);
        Check.throwsJust("38 no ticket", ARITHMETIC, () -> x.brokenShare());
        Desk.open(x, 0, "a");
        Check.equal("38 none is broken", x.brokenShare(), 0.0f);
        Desk.open(x, 1, "a");
        x.pass(3);
        Desk.open(x, 0, "a");
        Check.equal("38 one of three", x.brokenShare(), 1.0f / 3.0f);
        x.pass(3);
        Check.equal("38 all", x.brokenShare(), 1.0f);
        x.addPerson(0, 0, 1440);
        x.assign(0, 0);
        x.pass(30);
        Desk.open(x, 0, "a");
        Check.equal("38 a solved one counts", x.brokenShare(), 0.75f);
        Check.isTrue("39 isConsistent", x.isConsistent());
    }
}

/** Promises 1 to 10: a new object, and what there is. */
final class SetupTest {
    private static final Class<IllegalArgumentException> ARGUMENT = IllegalArgumentException.class;
    private static final Class<IllegalStateException> STATE = IllegalStateException.class;
    private static final Class<IndexOutOfBoundsException> INDEX = IndexOutOfBoundsException.class;
    private static final int[] NO_NUMBERS =
        {-1, 1, 5, 40, 100, Integer.MAX_VALUE, Integer.MIN_VALUE};

    private SetupTest() {
    }

    static void run() {
        newObject();
        typing();
        customers();
        causes();
        keywords();
        keywordsThrow();
        pages();
        people();
        stock();
        changesPlanned();
        changesFailed();
    }

    private static void newObject() {
        DeskExchange x = new DeskExchange();
        Check.equal("1 now", x.now(), 0);
        Check.isTrue("1 isConsistent", x.isConsistent());
        for (int part = 0; part < 5; part++) {
            Check.equal("1 free", x.free(part), 0);
            Check.equal("1 reserved", x.reserved(part), 0);
        }
        Check.throwsJust("1 open", INDEX, () -> x.open(0));
        Check.throwsJust("1 addKeyword", INDEX, () -> x.addKeyword(0));
        Check.throwsJust("1 addPage", INDEX, () -> x.addPage(0));
        Check.throwsJust("1 trust", INDEX, () -> x.trust(0));
        Check.throwsJust("1 isOnShift", INDEX, () -> x.isOnShift(0));
        Check.throwsJust("1 state", INDEX, () -> x.state(0));
        Check.throwsJust("1 failChange", INDEX, () -> x.failChange(0));
        Check.throwsJust("1 planChange", INDEX, () -> x.planChange(0, 0, 1, true));
        Check.throwsJust("1 lineAt", INDEX, () -> x.lineAt(0));
        DeskExchange other = new DeskExchange();
        other.addCustomer(1);
        Check.throwsJust("1 objects are apart", INDEX, () -> x.open(0));
    }

    private static void typing() {
        DeskExchange x = new DeskExchange();
        char[] wrong = {'a' - 1, 'z' + 1, 'A', 'Z', '0', '\t', '\n', 31, 33, 0, 160, 228, 65535};
        for (char each : wrong) {
            Check.throwsJust("2 type " + (int) each, ARGUMENT, () -> x.type(each));
        }
        for (int i = 0; i < 40; i++) {
            char next = i < 26 ? (char) ('a' + i) : ' ';
            Check.equal("2 type", x.type(next), i + 1);
        }
        Check.throwsJust("2 type into the full buffer", STATE, () -> x.type('a'));
        Check.throwsJust("2 type a blank into it", STATE, () -> x.type(' '));
        Check.throwsJust("2 type a wrong one into it", ARGUMENT, () -> x.type('A'));
        x.addCause(1, -1);
        Check.equal("2 the content was kept", x.addKeyword(0), 1);
        Check.equal("2 and is empty now", x.type('b'), 1);
    }

    private static void customers() {
        DeskExchange x = new DeskExchange();
        int[] wrong = {0, -1, 5001, Integer.MIN_VALUE, Integer.MAX_VALUE};
        for (int promise : wrong) {
            Check.throwsJust("3 addCustomer " + promise, ARGUMENT, () -> x.addCustomer(promise));
        }
        int[] right = {1, 5000, 7, 7, 2};
        for (int i = 0; i < right.length; i++) {
            Check.equal("3 addCustomer", x.addCustomer(right[i]), i);
        }
        Check.throwsJust("3 a sixth", STATE, () -> x.addCustomer(1));
        Check.throwsJust("3 a wrong sixth", ARGUMENT, () -> x.addCustomer(0));
        int[] none = {-1, 5, 6, Integer.MAX_VALUE, Integer.MIN_VALUE};
        for (int customer : none) {
            x.type('a');
            Check.throwsJust("3 no customer " + customer, INDEX, () -> x.open(customer));
        }
        Check.equal("3 the last", Desk.open(x, 4, "a"), 0);
        x.pass(2);
        Check.equal("3 its promise", x.isBroken(0), false);
        x.pass(1);
        Check.equal("3 its promise is broken", x.isBroken(0), true);
    }

    private static void causes() {
        DeskExchange x = new DeskExchange();
        int[][] wrong = {{0, 0}, {601, 0}, {-1, 0}, {1, 5}, {1, -2}, {0, 9}, {Integer.MAX_VALUE, 0},
            {1, Integer.MAX_VALUE}, {1, Integer.MIN_VALUE}};
        for (int[] each : wrong) {
            Check.throwsJust("4 addCause", ARGUMENT, () -> x.addCause(each[0], each[1]));
        }
        int[][] right = {{1, -1}, {600, 0}, {1, 1}, {2, 2}, {3, 3}, {4, 4}, {5, -1}, {6, 0}};
        for (int i = 0; i < right.length; i++) {
            Check.throwsJust("4 no cause yet", INDEX, causePage(x, i));
            Check.equal("4 addCause", x.addCause(right[i][0], right[i][1]), i);
        }
        Check.throwsJust("4 a ninth", STATE, () -> x.addCause(1, -1));
        Check.throwsJust("4 a wrong ninth", ARGUMENT, () -> x.addCause(0, -1));
        Check.throwsJust("4 a wrong part of a ninth", ARGUMENT, () -> x.addCause(1, 5));
        x.addCustomer(1);
        Desk.keyword(x, 1, "a");
        Desk.keyword(x, 5, "e");
        x.addPerson(255, 0, 1440);
        x.addStock(0, 1);
        x.addStock(4, 1);
        Desk.open(x, 0, "a");
        Desk.open(x, 0, "e");
        Check.equal("4 its work", x.assign(0, 0), 600);
        Check.equal("4 its part", x.reserved(0), 1);
        x.letGo(0);
        Check.equal("4 the other's work", x.assign(1, 0), 4);
        Check.equal("4 the other's part", x.reserved(4), 1);
    }

    private static Check.Call causePage(DeskExchange x, int cause) {
        return () -> x.addPage(cause);
    }

    private static void keywords() {
        DeskExchange x = new DeskExchange();
        x.addCause(1, -1);
        x.addCause(1, -1);
        Check.equal("5 one", Desk.keyword(x, 0, "fan"), 1);
        Check.equal("5 with blanks", Desk.keyword(x, 0, "  disk   "), 2);
        Check.equal("5 a part of another", Desk.keyword(x, 0, "fa"), 3);
        Check.equal("5 also of another cause", Desk.keyword(x, 1, "fan"), 1);
        Check.equal("5 of forty letters", Desk.keyword(x, 1, "a".repeat(40)), 2);
        x.addCustomer(1);
        Check.equal("5 found", x.cause(Desk.open(x, 0, "disk")), 0);
        Check.equal("5 found too", x.cause(Desk.open(x, 0, "a".repeat(40))), 1);
        Desk.open(x, 0, "a".repeat(39));
        Check.throwsJust("5 not found", java.util.NoSuchElementException.class, () -> x.cause(2));
    }

    private static void keywordsThrow() {
        DeskExchange x = new DeskExchange();
        x.addCause(1, -1);
        x.addCause(1, -1);
        int[] none = {-1, 2, 8, Integer.MAX_VALUE, Integer.MIN_VALUE};
        for (int cause : none) {
            Check.throwsJust("5 no cause", INDEX, () -> Desk.keyword(x, cause, "fan"));
            Check.throwsJust("5 no cause ahead of no word", INDEX, () -> x.addKeyword(cause));
        }
        String[] wrong = {"", " ", "    ", "a b", " a b ", "fan fan", "fan  fan", " ".repeat(40)};
        for (String text : wrong) {
            Check.throwsJust("5 wrong content", ARGUMENT, () -> Desk.keyword(x, 0, text));
            Check.equal("5 the buffer is empty", x.type(' '), 1);
            Check.throwsJust("5 a blank", ARGUMENT, () -> x.addKeyword(0));
        }
        Desk.keyword(x, 0, "a");
        Desk.keyword(x, 0, "b");
        Check.throwsJust("5 twice", ARGUMENT, () -> Desk.keyword(x, 0, "b"));
        Check.equal("5 a third", Desk.keyword(x, 0, "c"), 3);
        Check.throwsJust("5 a fourth", STATE, () -> Desk.keyword(x, 0, "d"));
        Check.equal("5 the buffer is empty after it", x.type('e'), 1);
        Check.equal("5 and was not used", x.addKeyword(1), 1);
        Check.throwsJust("5 twice ahead of a fourth", ARGUMENT, () -> Desk.keyword(x, 0, " c"));
        Check.throwsJust("5 two ahead of a fourth", ARGUMENT, () -> Desk.keyword(x, 0, "d e"));
    }

    private static void pages() {
        DeskExchange x = new DeskExchange();
        x.addCause(1, -1);
        x.addCause(1, -1);
        int[] none = {-1, 2, 8, Integer.MAX_VALUE, Integer.MIN_VALUE};
        for (int cause : none) {
            Check.throwsJust("6 no cause", INDEX, () -> x.addPage(cause));
        }
        Check.equal("6 the first", x.addPage(1), 0);
        Check.throwsJust("6 twice", STATE, () -> x.addPage(1));
        Check.equal("6 the second", x.addPage(0), 1);
        Check.throwsJust("6 twice too", STATE, () -> x.addPage(0));
        Check.equal("6 trust", x.trust(0), 50);
        Check.equal("6 trust", x.trust(1), 50);
        for (int cause = 2; cause < 8; cause++) {
            x.addCause(1, -1);
            Check.equal("6 more", x.addPage(cause), cause);
        }
    }

    private static void people() {
        DeskExchange x = new DeskExchange();
        int[][] wrong = {{-1, 0, 1}, {256, 0, 1}, {0, -1, 1}, {0, 1440, 1441}, {0, 1439, 1441},
            {0, 5, 5}, {0, 5, 4}, {0, 0, 0}, {0, 0, -1}, {Integer.MIN_VALUE, 0, 1},
            {Integer.MAX_VALUE, 0, 1}, {0, 0, Integer.MAX_VALUE}, {0, Integer.MIN_VALUE, 1},
            {0, 1440, 1440}};
        for (int[] each : wrong) {
            Check.throwsJust("7 addPerson", ARGUMENT, () -> x.addPerson(each[0], each[1], each[2]));
        }
        int[][] right = {{0, 0, 1}, {255, 1439, 1440}, {128, 0, 1440}, {1, 5, 6}, {2, 1, 2}, {0, 3, 9}};
        for (int i = 0; i < right.length; i++) {
            Check.equal("7 addPerson", x.addPerson(right[i][0], right[i][1], right[i][2]), i);
        }
        Check.throwsJust("7 a seventh", STATE, () -> x.addPerson(0, 0, 1));
        Check.throwsJust("7 a wrong seventh", ARGUMENT, () -> x.addPerson(0, 0, 0));
        Check.equal("7 on shift", x.isOnShift(0), true);
        Check.equal("7 not on shift", x.isOnShift(1), false);
        x.addCustomer(1);
        for (int i = 0; i < 8; i++) {
            x.addCause(1, -1);
            Desk.keyword(x, i, String.valueOf((char) ('a' + i)));
            Desk.open(x, 0, String.valueOf((char) ('a' + i)));
        }
        Check.throwsJust("7 lacks skill 6", UnsupportedOperationException.class, () -> x.assign(6, 2));
        Check.throwsJust("7 lacks skill 1", UnsupportedOperationException.class, () -> x.assign(1, 3));
        Check.equal("7 has skill 7", x.assign(7, 2), 1);
        Check.equal("7 has skill 0", x.assign(0, 3), 1);
        Check.equal("7 has skill 1", x.assign(1, 4), 1);
        Check.equal("7 has all skills", x.assign(5, 1), 1);
    }

    private static void stock() {
        DeskExchange x = new DeskExchange();
        int[] none = {-1, 5, Integer.MAX_VALUE, Integer.MIN_VALUE};
        for (int part : none) {
            Check.throwsJust("8 no kind", INDEX, () -> x.addStock(part, 1));
            Check.throwsJust("8 no kind ahead of no number", INDEX, () -> x.addStock(part, 0));
        }
        int[] wrong = {0, -1, 51, Integer.MAX_VALUE, Integer.MIN_VALUE};
        for (int count : wrong) {
            Check.throwsJust("8 out of range", ARGUMENT, () -> x.addStock(0, count));
        }
        Check.equal("8 one", x.addStock(4, 1), 1);
        Check.equal("8 fifty more", x.addStock(4, 50), 51);
        Check.equal("8 another kind", x.addStock(0, 50), 50);
        x.addCustomer(1);
        Desk.cause(x, 1, 2, "fan");
        Desk.open(x, 0, "fan");
        Check.equal("8 late stock", x.addStock(2, 1), 1);
        Check.equal("8 is not reserved", x.reserved(2), 0);
        Check.equal("8 is free", x.free(2), 1);
        Desk.open(x, 0, "fan");
        Check.equal("8 is reserved for the next", x.reserved(2), 1);
        Check.equal("8 reserved ones are included", x.addStock(2, 2), 3);
        x.addPerson(1, 0, 1440);
        x.assign(1, 0);
        x.pass(1);
        Check.equal("8 used ones are not", x.addStock(2, 2), 4);
    }

    private static void changesPlanned() {
        DeskExchange x = new DeskExchange();
        x.addCause(1, -1);
        int[] none = {-1, 1, 8, Integer.MAX_VALUE, Integer.MIN_VALUE};
        for (int cause : none) {
            Check.throwsJust("9 no cause", INDEX, () -> x.planChange(cause, 0, 1, true));
            Check.throwsJust("9 no cause ahead of no time", INDEX, () -> x.planChange(cause, 9, 1, true));
        }
        x.pass(10);
        int[][] wrong = {{9, 20}, {-1, 20}, {10, 10}, {11, 10}, {10, 20001}, {20000, 20001},
            {20000, 20000}, {Integer.MIN_VALUE, 20}, {10, Integer.MAX_VALUE},
            {Integer.MAX_VALUE, Integer.MIN_VALUE}};
        for (int[] each : wrong) {
            Check.throwsJust("9 no time", ARGUMENT, () -> x.planChange(0, each[0], each[1], false));
        }
        int[][] right = {{10, 11}, {10, 20000}, {19999, 20000}, {10, 11}, {11, 12}, {500, 501}};
        for (int i = 0; i < right.length; i++) {
            Check.equal("9 planChange", x.planChange(0, right[i][0], right[i][1], true), i);
        }
        Check.throwsJust("9 a seventh", STATE, () -> x.planChange(0, 10, 11, true));
        Check.throwsJust("9 a wrong seventh", ARGUMENT, () -> x.planChange(0, 9, 11, true));
        for (int i : new int[] {-1, 6, Integer.MAX_VALUE, Integer.MIN_VALUE}) {
            Check.throwsJust("10 no change", INDEX, () -> x.failChange(i));
        }
    }

    private static void changesFailed() {
        DeskExchange x = new DeskExchange();
        x.addCause(1, -1);
        x.planChange(0, 5, 10, true);
        x.planChange(0, 5, 10, false);
        x.planChange(0, 0, 1, true);
        Check.throwsJust("10 no fourth", INDEX, () -> x.failChange(3));
        Check.equal("10 ahead of it", x.failChange(0), false);
        Check.throwsJust("10 twice", STATE, () -> x.failChange(0));
        Check.equal("10 at its beginning", x.failChange(2), true);
        x.pass(9);
        Check.throwsJust("10 twice, and ended", STATE, () -> x.failChange(2));
        Check.equal("10 at its last minute", x.failChange(1), true);
        x.planChange(0, 9, 10, true);
        x.pass(1);
        Check.throwsJust("10 ended", STATE, () -> x.failChange(3));
        Check.throwsJust("10 failed and ended", STATE, () -> x.failChange(1));
        for (int i : NO_NUMBERS) {
            if (i < 0 || i > 3) {
                Check.throwsJust("10 no change", INDEX, () -> x.failChange(i));
            }
        }
    }
}

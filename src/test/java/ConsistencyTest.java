import java.lang.reflect.Field;
import java.util.List;

/**
 * Promise 39 where an invariant does not hold. No run of calls comes there, so each test breaks
 * what the object keeps from the inside, by the names of its fields, and mends it again.
 */
final class ConsistencyTest {
    private static final String[] STATES = {"without a cause", "a parent", "worked on", "joined"};

    private ConsistencyTest() {
    }

    static void run() throws Exception {
        DeskExchange x = desk();
        for (int i = 0; i < STATES.length; i++) {
            Object ticket = kept(x, "tickets").get(i);
            int minutes = (int) get(ticket, "minutes");
            breaks(x, ticket, "minutes", minutes + 1, "the clock of one that is " + STATES[i]);
            breaks(x, ticket, "minutes", minutes - 1, "the clock of one that is " + STATES[i]);
            breaks(x, ticket, "cause", i == 0 ? kept(x, "causes").get(0) : null,
                    "the cause of one that is " + STATES[i]);
        }
        for (Object stock : kept(x, "stocks")) {
            breaks(x, stock, "reserved", (int) get(stock, "reserved") + 1, "a reserved part too many");
        }
        Object stock = kept(x, "stocks").get(0);
        breaks(x, stock, "reserved", 1, "a reserved part too few");
        for (int i = 0; i < 3; i++) {
            Object part = get(kept(x, "tickets").get(i), "part");
            breaks(x, kept(x, "tickets").get(i), "part", part == null ? stock : null,
                    "a ticket with a part too many or too few");
        }
        Object first = kept(x, "people").get(0);
        Object last = kept(x, "people").get(2);
        breaks(x, last, "ticket", get(first, "ticket"), "two people at the same work");
        breaks(x, first, "ticket", get(kept(x, "people").get(1), "ticket"), "two at the other's");
    }

    /** Tickets 0 and 2 are worked on, the first without a cause; ticket 3 is joined to 1. */
    private static DeskExchange desk() {
        DeskExchange x = Desk.promising(10);
        Desk.cause(x, 9, 0, "fan");
        x.addPerson(1, 0, 1440);
        x.addPerson(1, 0, 1440);
        x.addPerson(1, 0, 1440);
        x.addStock(0, 2);
        Desk.open(x, 0, "else");
        for (int i = 1; i < 4; i++) {
            Desk.open(x, 0, "fan");
        }
        x.pass(2);
        x.join(3, 1);
        x.assign(2, 0);
        x.assign(0, 1);
        x.pass(3);
        return x;
    }

    private static void breaks(DeskExchange x, Object part, String field, Object value, String what)
            throws Exception {
        Object before = get(part, field);
        Check.isTrue("39 isConsistent, ahead of " + what, x.isConsistent());
        field(part, field).set(part, value);
        Check.equal("39 isConsistent with " + what, x.isConsistent(), false);
        field(part, field).set(part, before);
        Check.isTrue("39 isConsistent again", x.isConsistent());
    }

    private static List<?> kept(DeskExchange x, String field) throws Exception {
        return (List<?>) get(x, field);
    }

    private static Object get(Object part, String field) throws Exception {
        return field(part, field).get(part);
    }

    private static Field field(Object part, String name) throws Exception {
        Field field = part.getClass().getDeclaredField(name);
        field.setAccessible(true);
        return field;
    }
}

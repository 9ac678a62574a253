/** Short forms of what most tests do with a desk. */
final class Desk {
    private Desk() {
    }

    static void type(DeskExchange x, String text) {
        for (int i = 0; i < text.length(); i++) {
            x.type(text.charAt(i));
        }
    }

    static int keyword(DeskExchange x, int cause, String word) {
        type(x, word);
        return x.addKeyword(cause);
    }

    static int open(DeskExchange x, int customer, String text) {
        type(x, text);
        return x.open(customer);
    }

    static String line(DeskExchange x, int ticket) {
        int length = x.writeLine(ticket);
        StringBuilder line = new StringBuilder();
        for (int i = 0; i < length; i++) {
            line.append(x.lineAt(i));
        }
        Check.throwsJust("lineAt behind the line", IndexOutOfBoundsException.class,
                () -> x.lineAt(length));
        return line.toString();
    }

    /** A desk with one customer, who is promised so many minutes. */
    static DeskExchange promising(int promise) {
        DeskExchange x = new DeskExchange();
        x.addCustomer(promise);
        return x;
    }

    /** Adds a cause with one keyword. */
    static int cause(DeskExchange x, int work, int part, String word) {
        int cause = x.addCause(work, part);
        keyword(x, cause, word);
        return cause;
    }

    /** Lets the person solve new tickets of the cause until its page has the trust 70. */
    static void raiseTrust(DeskExchange x, int page, int person, String word) {
        while (x.trust(page) < 70) {
            int ticket = open(x, 0, word);
            x.assign(ticket, person);
            for (int i = 0; i < 30 && x.state(ticket) == 'w'; i++) {
                x.pass(1);
            }
        }
    }

    /** Lets time pass until it is so late. */
    static void passUntil(DeskExchange x, int time) {
        for (int left = time - x.now(); left > 0; left -= 1000) {
            x.pass(Math.min(1000, left));
        }
    }

    /** Opens a ticket with each text, for the customer 0. */
    static void openEach(DeskExchange x, String... texts) {
        for (String text : texts) {
            open(x, 0, text);
        }
    }

    /** The states of the first tickets, in the order of their numbers. */
    static String states(DeskExchange x, int tickets) {
        StringBuilder states = new StringBuilder();
        for (int i = 0; i < tickets; i++) {
            states.append(x.state(i));
        }
        return states.toString();
    }

    /**
     * A desk at the time 2 where the page 0 of the cause 0, "fan", has the trust 70, by the tickets
     * 0 and 1, which the person 0 has solved. The cause takes 1 minute and no part.
     */
    static DeskExchange trusting() {
        DeskExchange x = promising(10);
        cause(x, 1, -1, "fan");
        x.addPage(0);
        x.addPerson(255, 0, 1440);
        raiseTrust(x, 0, 0, "fan");
        return x;
    }

    /**
     * A desk at the time 2 with one ticket in each state: 2 is open, 3 worked on by the person 0,
     * 4 answered, 5 hushed by a change until 9, 6 joined to 2, and 0 and 1 are solved.
     */
    static DeskExchange inAllStates() {
        DeskExchange x = trusting();
        openEach(x, "else", "else", "fan");
        x.assign(3, 0);
        x.planChange(0, 2, 9, true);
        openEach(x, "fan", "else");
        x.join(6, 2);
        return x;
    }
}

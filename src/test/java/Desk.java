/** Short forms of what most tests do with a desk. */
final class Desk {
    private Desk() {
    }

    static void type(DeskExchange x, String text) {
        for (int i = 0; i < text.length(); i++) {
            x.type(text.charAt(i));
        }
    }

    static int keyword(DeskExchange x, int cause, String word) {
        type(x, word);
        return x.addKeyword(cause);
    }

    static int open(DeskExchange x, int customer, String text) {
        type(x, text);
        return x.open(customer);
    }

    static String line(DeskExchange x, int ticket) {
        int length = x.writeLine(ticket);
        StringBuilder line = new StringBuilder();
        for (int i = 0; i < length; i++) {
            line.append(x.lineAt(i));
        }
        Check.throwsJust("lineAt behind the line", IndexOutOfBoundsException.class,
                () -> x.lineAt(length));
        return line.toString();
    }

    /** A desk with one customer, who is promised so many minutes. */
    static DeskExchange promising(int promise) {
        DeskExchange x = new DeskExchange();
        x.addCustomer(promise);
        return x;
    }

    /** Adds a cause with one keyword. */
    static int cause(DeskExchange x, int work, int part, String word) {
        int cause = x.addCause(work, part);
        keyword(x, cause, word);
        return cause;
    }

    /** Lets the person solve new tickets of the cause until its page has the trust 70. */
    static void raiseTrust(DeskExchange x, int page, int person, String word) {
        while (x.trust(page) < 70) {
            int ticket = open(x, 0, word);
            x.assign(ticket, person);
            while (x.state(ticket) == 'w') {
                x.pass(1);
            }
        }
    }
}

import java.util.NoSuchElementException;

/** What the tests share: counting what was checked, and texts put on the tape. */
final class Checks {
    static final int MIN = Integer.MIN_VALUE;
    private static int passed = 0;
    private static int failed = 0;

    private Checks() {
    }

    static void is(String what, long got, long want) {
        if (got == want) {
            passed++;
        } else {
            failed++;
            System.out.println(what + " answered " + got + ", due is " + want);
        }
    }

    static void is(String what, boolean got, boolean want) {
        is(what, got ? 1 : 0, want ? 1 : 0);
    }

    /** A refused call: what it answers, and the number that trouble() tells then. */
    static void refused(OrderSplit x, String what, long got, long want, int trouble) {
        is(what, got, want);
        is("trouble() behind " + what, x.trouble(), trouble);
    }

    /** The answer of dry, or -9 if it throws what the document names. */
    static int dry(OrderSplit x, int i) {
        try {
            return x.dry(i);
        } catch (NoSuchElementException e) {
            return -9;
        }
    }

    /** Feeds a text, with blanks behind it up to a whole feed. */
    static void feed(OrderSplit x, String text) {
        for (int i = 0; i < text.length(); i += 20) {
            x.feed(four(text, i), four(text, i + 4), four(text, i + 8), four(text, i + 12), four(text, i + 16));
        }
    }

    private static int four(String text, int from) {
        int number = 0;
        for (int i = from; i < from + 4; i++) {
            number = number << 8 | (i < text.length() ? text.charAt(i) & 255 : ' ');
        }
        return number;
    }

    static int load(OrderSplit x, String text) {
        feed(x, text);
        return x.split(text.length());
    }

    static OrderSplit made(String text) {
        OrderSplit x = new OrderSplit();
        int venues = load(x, text);
        if (venues < 0) {
            failed++;
            System.out.println("a test's own text has fault " + x.fault() + " at " + x.where() + ": " + text);
        }
        return x;
    }

    static void end(String name) {
        System.out.println(name + ": " + passed + " passed, " + failed + " failed");
        if (failed != 0) {
            System.exit(1);
        }
    }
}

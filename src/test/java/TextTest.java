/** Promises 1 to 6: a new object, the tape, the text and its faults. */
public final class TextTest {
    private static final String HEAD = "order 1 limit 1 life 1;";
    private static final String VENUE = "venue ax plain lot 1 fee 0 least 0 delay 1";

    public static void main(String[] args) {
        newObject();
        feeding();
        splitting();
        latestFault();
        about();
        lines();
        form();
        names();
        bounds();
        many();
        lacks();
        firstFault();
        Checks.end("TextTest");
    }

    /** Promise 1: no SPLIT, so 1 comes first, whatever else is wrong. */
    private static void newObject() {
        OrderSplit x = new OrderSplit();
        Checks.is("trouble() of a new object", x.trouble(), 0);
        Checks.is("fault() of a new object", x.fault(), 0);
        Checks.is("where() of a new object", x.where(), -1);
        Checks.refused(x, "about(9)", x.about(9), -1, 1);
        Checks.refused(x, "units(0)", x.units(0), -1, 1);
        Checks.refused(x, "margin(121)", x.margin(121), Checks.MIN, 1);
        Checks.refused(x, "greedy(0, 0)", x.greedy(0, 0), Checks.MIN, 1);
        Checks.refused(x, "order(0)", x.order(0), -1, 1);
        Checks.refused(x, "ticks(0)", x.ticks(0), -1, 1);
        Checks.refused(x, "begin()", x.begin(), -1, 1);
        Checks.refused(x, "planned(0)", x.planned(0), Checks.MIN, 1);
        Checks.refused(x, "move()", x.move(), -1, 1);
        Checks.refused(x, "adopt(0)", x.adopt(0), -1, 1);
        Checks.refused(x, "keep()", x.keep() ? 1 : 0, 0, 1);
        Checks.refused(x, "back()", x.back() ? 1 : 0, 0, 1);
        for (int what = 0; what < 3; what++) {
            Checks.is("size(" + what + ") of a new object", x.size(what), 0);
        }
        Checks.is("dry(0) of a new object", Checks.dry(x, 0), -9);
    }

    /** Promise 2. */
    private static void feeding() {
        OrderSplit x = new OrderSplit();
        x.about(0);
        for (int i = 1; i <= 45; i++) {
            Checks.is("feed " + i, x.feed(0, 0, 0, 0, 0), 20 * i);
        }
        Checks.is("feed beyond 900", x.feed(0, 0, 0, 0, 0), -1);
        Checks.is("size(0) then", x.size(0), 900);
        Checks.is("trouble() isn't feed's", x.trouble(), 1);
        Checks.refused(x, "split(901)", x.split(901), -1, 2);
        Checks.refused(x, "split(900)", x.split(900), -1, 4);
        Checks.is("the tape is empty then", x.size(0), 0);
        Checks.is("feed again", x.feed(1, 2, 3, 4, 5), 20);

        OrderSplit full = new OrderSplit();
        String text = HEAD + VENUE;
        Checks.is("a text of 900 bytes", Checks.load(full, text + " ".repeat(900 - text.length())), 1);
        // "orde", "r -1" ..: the highest byte first, of numbers below 0 too
        OrderSplit order = new OrderSplit();
        order.feed(0x6f726465, 0x7220ffff, -1, -1, -1);
        order.split(20);
        Checks.is("fault of byte 255", order.fault(), 1);
        Checks.is("place of byte 255", order.where(), 6);
    }

    /** Promise 3. */
    private static void splitting() {
        OrderSplit x = new OrderSplit();
        Checks.feed(x, HEAD + VENUE + ";venue by flat lot 1 fee 0 least 0 delay 1");
        Checks.refused(x, "split(-1)", x.split(-1), -1, 2);
        Checks.is("the tape stays", x.size(0), 120);
        Checks.refused(x, "split(121)", x.split(121), -1, 2);
        Checks.is("the tape stays still", x.size(0), 120);
        Checks.is("only the first bytes are the SPLIT", x.split(HEAD.length() + VENUE.length()), 1);
        Checks.is("trouble() of it", x.trouble(), 0);
        Checks.is("the tape is empty", x.size(0), 0);

        x.begin();
        x.keep();
        Checks.refused(x, "a text with a fault", Checks.load(x, "order 0"), -1, 4);
        Checks.is("the SPLIT stays", x.about(3), 1);
        Checks.is("it stays begun", x.size(2), 1);
        Checks.is("it stays kept", x.size(1), 1);
        Checks.is("another SPLIT", Checks.load(x, HEAD + VENUE + ";level ax 1 9"), 1);
        Checks.is("that isn't begun", x.size(2), 0);
        Checks.is("nothing is kept", x.size(1), 0);
        Checks.refused(x, "back()", x.back() ? 1 : 0, 0, 1);
        x.plan(0, 1);
        Checks.load(x, HEAD + VENUE + ";level ax 1 9");
        Checks.is("a new SPLIT has no PLAN", x.planned(0), 0);
    }

    /** Promises 4 and 5. */
    private static void latestFault() {
        OrderSplit x = new OrderSplit();
        Checks.load(x, "order 121");
        Checks.is("fault()", x.fault(), 4);
        Checks.is("where()", x.where(), 6);
        x.size(0);
        Checks.dry(x, 0);
        x.trouble();
        x.feed(0, 0, 0, 0, 0);
        Checks.is("where() behind calls that can't be refused", x.where(), 6);
        Checks.refused(x, "split(21)", x.split(21), -1, 2);
        Checks.is("fault() stays behind a 2", x.fault(), 4);
        Checks.is("where() doesn't", x.where(), -1);
        x.split(1);
        Checks.is("fault() of the next", x.fault(), 1);
        Checks.is("where() of the next", x.where(), 0);
        x.about(0);
        Checks.is("where() behind a refusal by 1", x.where(), -1);
        Checks.is("fault() then", x.fault(), 1);
        Checks.load(x, HEAD + VENUE);
        Checks.is("fault() of a SPLIT", x.fault(), 0);
        Checks.is("where() of a SPLIT", x.where(), -1);
    }

    /** Promise 6. */
    private static void about() {
        OrderSplit x = Checks.made("order 120 limit 999 life 20;" + VENUE + ";venue b flat lot 20 fee 9 least 300 delay 9"
            + ";level ax 999 99;event 200 ax 0 0;event 200 ax 0 99;event 200 ax 0 1");
        int[] want = {120, 999, 20, 2, 3};
        for (int i = 0; i < 5; i++) {
            Checks.is("about(" + i + ")", x.about(i), want[i]);
        }
        Checks.is("trouble()", x.trouble(), 0);
        Checks.refused(x, "about(5)", x.about(5), -1, 1);
        Checks.refused(x, "about(-1)", x.about(-1), -1, 1);
        x.order(7);
        Checks.is("ORDER as it is", x.about(0), 7);
    }

    /** Texts without a fault. */
    private static void lines() {
        good("blanks mean nothing else", "   order   1 limit 1 life 1  ;  " + VENUE + "   ", 1);
        good("no blank is needed where TOKENS part by themselves", "order1limit1life1;venue a plain lot1fee-0least0delay1", 1);
        good("leading zeros", "order 001 limit 01 life 1;" + VENUE, 1);
        good("WORDS of the text as NAMES", HEAD + "venue lot plain lot 1 fee 0 least 0 delay 1;venue plain flat lot 1"
            + " fee 0 least 0 delay 1;level lot 1 1;level plain 1 1", 2);
        good("a and aa are two", HEAD + VENUE.replace("ax", "a") + ";" + VENUE.replace("ax", "aa"), 2);
        good("a NAME of six letters", HEAD + VENUE.replace("ax", "zzzzzz") + ";" + VENUE.replace("ax", "zzzzzy"), 2);
        good("the first order, though short, stands", "order 1 limit 1 life 1;" + VENUE, 1);
        OrderSplit x = Checks.made(HEAD + "venue a tiers lot 20 fee - 9 least 300 delay 9");
        int[] want = {1, 20, -9, 300, 9, 0, 0};
        for (int i = 0; i < 7; i++) {
            Checks.is("venue(0, " + i + ")", x.venue(0, i), want[i]);
        }
    }

    private static void good(String what, String text, int venues) {
        OrderSplit x = new OrderSplit();
        Checks.is(what, Checks.load(x, text), venues);
        Checks.is("fault() of it", x.fault(), 0);
    }

    /** A text with ^ at the place of its fault. */
    private static void bad(int number, String marked) {
        int place = marked.indexOf('^');
        OrderSplit x = new OrderSplit();
        Checks.refused(x, "split of " + marked, Checks.load(x, marked.replace("^", "")), -1, 4);
        Checks.is("fault() of " + marked, x.fault(), number);
        Checks.is("where() of " + marked, x.where(), place);
    }

    private static void form() {
        bad(1, "^");
        bad(1, "   ^");
        bad(1, "^orders 1");
        bad(1, "^arder 1");
        bad(1, "^ordex 1");
        bad(1, "^;");
        bad(1, "^1");
        bad(1, "^Order");
        bad(1, "order^");
        bad(1, "order   ^");
        bad(1, "order ^- 1");
        bad(1, "order ^1000");
        bad(1, "order 1^.5");
        bad(1, "order 1 ^limits 1");
        bad(1, "order 1 ^life 1");
        bad(1, "order 1 limit 1 life 1^,");
        bad(1, "order 1 limit 1 life 1 ^" + VENUE);
        bad(1, HEAD + "^");
        bad(1, HEAD + " ^;" + VENUE);
        bad(1, HEAD + VENUE + ";^");
        bad(1, HEAD + VENUE + "^\n");
        bad(1, HEAD + "^ax");
        bad(1, HEAD + "venue ^level");
        bad(1, HEAD + "venue ^1");
        bad(1, HEAD + "venue ^abcdefg plain");
        bad(1, HEAD + "venue ax ^bold");
        bad(1, HEAD + "venue ax ^clat");
        bad(1, HEAD + "venue ax plain ^fee");
        bad(1, HEAD + "venue ax plain lot 1 ^least");
        bad(1, HEAD + "venue ax plain lot 1 fee 1 ^delay");
        bad(1, HEAD + "venue ax plain lot 1 fee 1 least 1 ^least");
        bad(1, HEAD + "venue ax plain lot 1 fee - ^- 1");
        bad(1, HEAD + "venue ax plain lot ^- 1");
        bad(1, HEAD + "venue ax plain lot 1 fee -^");
        bad(1, HEAD + "venue ax plain lot 1 fee 1 ^1");
        bad(1, HEAD + "venue ax plain lot 1 fee 0 least 0 delay 1 ^1");
        bad(1, HEAD + VENUE + ";level ^order 1 1");
        bad(1, HEAD + VENUE + ";level ^1 1");
        bad(1, HEAD + VENUE + ";level ax 1^");
        bad(1, HEAD + VENUE + ";event ^ax 0 0");
        bad(1, HEAD + VENUE + ";level ax 1 1;event 1 ^event 0 0");
        bad(1, HEAD + VENUE + ";level ax 1 1;event 1 ax 0^");
    }

    private static void names() {
        bad(2, HEAD + "level ^ax 1 1");
        bad(2, HEAD + VENUE + ";level ^axx 1 1");
        bad(2, HEAD + VENUE + ";event 1 ^a 0 0");
        bad(3, HEAD + VENUE + ";venue ^ax");
        bad(3, HEAD + "^order");
        bad(3, HEAD + VENUE + ";^order 1 limit 1 life 1");
    }

    private static void bounds() {
        bad(4, "order ^0");
        bad(4, "order ^121 limit");
        bad(4, "order 1 limit ^0");
        bad(4, "order 1 limit 999 life ^0");
        bad(4, "order 1 limit 999 life ^21");
        bad(4, HEAD + "venue ax plain lot ^0");
        bad(4, HEAD + "venue ax plain lot ^21");
        bad(4, HEAD + "venue ax plain lot 1 fee ^10");
        bad(4, HEAD + "venue ax plain lot 1 fee -^10");
        bad(4, HEAD + "venue ax plain lot 1 fee 0 least ^301");
        bad(4, HEAD + "venue ax plain lot 1 fee 0 least 0 delay ^0");
        bad(4, HEAD + "venue ax plain lot 1 fee 0 least 0 delay ^10");
        bad(4, HEAD + VENUE + ";level ax ^0 1");
        bad(4, HEAD + VENUE + ";level ax 5 1;level ax ^5 1");
        bad(4, HEAD + VENUE + ";level ax 999 1;level ax ^999 1");
        bad(4, HEAD + VENUE + ";level ax 5 ^0");
        bad(4, HEAD + VENUE + ";level ax 5 ^100");
        bad(4, HEAD + VENUE + ";level ax 5 1;event ^0 ax 0 0");
        bad(4, HEAD + VENUE + ";level ax 5 1;event ^201 ax 0 0");
        bad(4, HEAD + VENUE + ";level ax 5 1;event 7 ax 0 0;event 7 ax 0 0;event ^6 ax 0 0");
        bad(4, HEAD + VENUE + ";event 1 ax ^0 0");
        bad(4, HEAD + VENUE + ";level ax 5 1;event 1 ax ^1 0;level ax 6 1");
        bad(4, HEAD + VENUE + ";level ax 5 1;event 1 ax 0 ^100");
        good("another VENUE's PRICE is free", HEAD + VENUE + ";" + VENUE.replace("ax", "b") + ";level ax 5 1;level b 5 1;level ax 6 1", 2);
    }

    private static void many() {
        StringBuilder t = new StringBuilder(HEAD);
        for (char c = 'a'; c < 'f'; c++) {
            t.append(VENUE.replace("ax", String.valueOf(c))).append(';');
        }
        good("five VENUES", t + "level a 1 1", 5);
        bad(5, t + "^venue");
        bad(5, t + "^venue a");
        StringBuilder l = new StringBuilder(HEAD + VENUE + ";" + VENUE.replace("ax", "b") + ";");
        for (int i = 1; i < 7; i++) {
            l.append("level ax ").append(i).append(" 1;");
        }
        good("six LEVELS", l + "level b 1 1", 2);
        bad(5, l + "level ^ax");
        bad(5, l + "level ^ax 0");
        StringBuilder e = new StringBuilder(HEAD + VENUE + ";level ax 1 1");
        e.append(";event 1 ax 0 0".repeat(10));
        good("ten EVENTS", e.toString(), 1);
        bad(5, e + ";^event");
    }

    private static void lacks() {
        bad(6, "^venue ax");
        bad(6, "  ^level ax 1 1;order 1 limit 1 life 1");
        bad(6, "^event");
        bad(6, "order 1 limit 1 life 1^");
        bad(6, "order 1 limit 1 life 1   ^");
        bad(1, "order 1 limit 1 life 1;^");
    }

    /** The first from the left, whatever its number. */
    private static void firstFault() {
        bad(4, "order ^0 limit #");
        bad(1, "order ^# limit 0");
        bad(3, HEAD + VENUE + ";venue ^ax bold lot 0");
        bad(2, HEAD + VENUE + ";level ^b 0 0");
        bad(4, HEAD + VENUE + ";level ax ^0 1000");
    }
}

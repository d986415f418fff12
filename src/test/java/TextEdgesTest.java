import java.util.ArrayList;
import java.util.List;
import java.util.function.ToIntFunction;
import java.util.regex.Matcher;
import java.util.regex.Pattern;

/**
 * Terms I and promises 2 to 5, at their edges: each WHOLE of each LINE at the last value that is
 * allowed and at the first that is not, each sort of LINE at its last one and at one more, each byte
 * of a text as its end, and each FAULT at its place.
 */
public final class TextEdgesTest {
    private static final String HEAD = "order 9 limit 9 life 9;";
    private static final String VENUE = "venue a plain lot 1 fee 0 least 0 delay 1";
    private static final String MARKET = HEAD + VENUE + ";level a 5 1;level a 6 1;level a 7 1";

    public static void main(String[] args) {
        orderLine();
        venueLine();
        levelLine();
        risingPrices();
        eventLine();
        risingTimes();
        lengthsOfTokens();
        namesThatAreWords();
        namesOfOneLetter();
        everyByte();
        everyCut();
        everyToken();
        manyVenues();
        manyLevels();
        manyEvents();
        lacks();
        ofOnePlaceTheLeast();
        theFirstFromTheLeft();
        tapeToItsEnd();
        tapeByteByByte();
        tapeBehindASplit();
        faultAndWhere();
        Checks.end("TextEdgesTest");
    }

    // ---- what the tests are made of

    private static void good(String text, int venues) {
        OrderSplit x = new OrderSplit();
        Checks.is("split of " + text, Checks.load(x, text), venues);
        Checks.is("trouble() of " + text, x.trouble(), 0);
        Checks.is("fault() of " + text, x.fault(), 0);
        Checks.is("where() of " + text, x.where(), -1);
    }

    private static void bad(int fault, int place, String text) {
        OrderSplit x = new OrderSplit();
        Checks.refused(x, "split of " + text, Checks.load(x, text), -1, 4);
        Checks.is("where() of " + text, x.where(), place);
        Checks.is("fault() of " + text, x.fault(), fault);
        Checks.is("about(0) behind " + text, x.about(0), -1);
        Checks.is("size(0) behind " + text, x.size(0), 0);
    }

    /** A text with ^ at the place of its FAULT. */
    private static void bad(int fault, String marked) {
        bad(fault, marked.indexOf('^'), marked.replace("^", ""));
    }

    /** A text with # for a WHOLE that is low .. high, and what tells it again. */
    private static void whole(String text, int low, int high, ToIntFunction<OrderSplit> told) {
        int place = text.indexOf('#');
        for (int n : new int[] {low, high}) {
            OrderSplit x = Checks.made(text.replace("#", String.valueOf(n)));
            Checks.is(n + " in " + text, told.applyAsInt(x), n);
            OrderSplit padded = Checks.made(text.replace("#", String.format("%03d", n)));
            Checks.is(n + " of three digits in " + text, told.applyAsInt(padded), n);
        }
        if (low > 0) {
            bad(4, place, text.replace("#", String.valueOf(low - 1)));
            bad(4, place, text.replace("#", "0"));
            bad(4, place, text.replace("#", "000"));
        }
        if (high < 999) {
            bad(4, place, text.replace("#", String.valueOf(high + 1)));
            bad(4, place, text.replace("#", "999"));
        }
        bad(1, place, text.replace("#", "1000"));
        bad(1, place, text.replace("#", "0001"));
        bad(1, place, text.replace("#", "x"));
        bad(1, place, text.replace("#", ";"));
    }

    // ---- WHOLES

    private static void orderLine() {
        whole("order # limit 9 life 9;" + VENUE, 1, 120, x -> x.about(0));
        whole("order 9 limit # life 9;" + VENUE, 1, 999, x -> x.about(1));
        whole("order 9 limit 9 life #;" + VENUE, 1, 20, x -> x.about(2));
    }

    private static void venueLine() {
        for (String kind : List.of("plain", "tiers", "flat")) {
            whole(HEAD + "venue a " + kind + " lot # fee 0 least 0 delay 1", 1, 20, x -> x.venue(0, 1));
            whole(HEAD + "venue a " + kind + " lot 1 fee # least 0 delay 1", 0, 9, x -> x.venue(0, 2));
            // below 0, too, a FAULT is at the WHOLE, whatever stands ahead of it
            whole(HEAD + "venue a " + kind + " lot 1 fee -# least 0 delay 1", 0, 9, x -> -x.venue(0, 2));
            whole(HEAD + "venue a " + kind + " lot 1 fee - # least 0 delay 1", 0, 9, x -> -x.venue(0, 2));
            whole(HEAD + "venue a " + kind + " lot 1 fee 0 least # delay 1", 0, 300, x -> x.venue(0, 3));
            whole(HEAD + "venue a " + kind + " lot 1 fee 0 least 0 delay #", 1, 9, x -> x.venue(0, 4));
        }
        bad(1, HEAD + "venue a plain lot 1 fee -^-1 least 0 delay 1");
        bad(1, HEAD + "venue a plain lot ^-1 fee 1 least 0 delay 1");
        bad(1, HEAD + "venue a plain lot 1 fee 1 least ^-1 delay 1");
        bad(1, HEAD + "venue a plain lot 1 fee 1 least 1 delay ^-1");
    }

    private static void levelLine() {
        whole(HEAD + VENUE + ";level a # 9", 1, 999, x -> x.level(0, 0, 0));
        whole(HEAD + VENUE + ";level a 9 #", 1, 99, x -> x.level(0, 0, 1));
        bad(1, HEAD + VENUE + ";level a ^-1 9");
        bad(1, HEAD + VENUE + ";level a 9 ^-1");
    }

    /** Each PRICE is above that of the VENUE's LEVEL ahead, whatever those of other VENUES are. */
    private static void risingPrices() {
        String two = HEAD + VENUE + ";" + VENUE.replace("venue a", "venue b");
        whole(two + ";level a 500 1;level b 700 1;level a # 1", 501, 999, x -> x.level(0, 1, 0));
        whole(two + ";level a 500 1;level b # 1", 1, 999, x -> x.level(1, 0, 0));
        whole(two + ";level a 998 1;level a # 1", 999, 999, x -> x.level(0, 1, 0));
        bad(4, two + ";level a 999 1;level a ^999 1");
        bad(4, two + ";level a 1 1;level a 2 1;level a 3 1;level a 4 1;level a 5 1;level a ^5 1");
        good(two + ";level a 1 1;level a 2 1;level a 3 1;level a 4 1;level a 5 1;level a 6 1", 2);
    }

    /** The first TIME at which a LEVEL has another SIZE. */
    private static int timeOfEvent(OrderSplit x) {
        x.resize(0, 0, 0);
        x.resize(0, 1, 0);
        x.resize(0, 2, 0);
        x.begin();
        for (int time = 0; time <= 200; time++) {
            if (x.level(0, 0, 1) == 77) {
                return time;
            }
            x.ticks(1);
        }
        return -9;
    }

    /** The LEVEL that has another SIZE at TIME 1. */
    private static int levelOfEvent(OrderSplit x) {
        x.begin();
        x.ticks(1);
        for (int k = 0; k < 3; k++) {
            if (x.level(0, k, 1) == 77) {
                return k;
            }
        }
        return -9;
    }

    private static int sizeOfEvent(OrderSplit x) {
        x.order(1);
        x.resize(0, 0, 50);
        x.resize(0, 1, 50);
        x.begin();
        x.ticks(1);
        return x.level(0, 2, 1);
    }

    private static void eventLine() {
        whole(MARKET + ";event # a 0 77", 1, 200, TextEdgesTest::timeOfEvent);
        // a PART comes later than the EVENT, so that nothing is bought of it yet
        whole(MARKET.replace("order 9", "order 3").replace("delay 1", "delay 2") + ";event 1 a # 77", 0, 2,
            TextEdgesTest::levelOfEvent);
        whole(MARKET + ";event 1 a 2 #", 0, 99, TextEdgesTest::sizeOfEvent);
        whole(HEAD + VENUE + ";level a 5 1;event 1 a # 0", 0, 0, x -> 0);
        // a LEVEL that is told later isn't there yet
        bad(4, HEAD + VENUE + ";event 1 a ^0 0;level a 5 1");
        bad(4, HEAD + VENUE + ";level a 5 1;event 1 a ^1 0;level a 6 1");
        good(HEAD + VENUE + ";level a 5 1;level a 6 1;event 1 a 1 0;level a 7 1;event 1 a 2 0", 1);
        // a LEVEL of its own VENUE, not of another one
        bad(4, MARKET + ";" + VENUE.replace("venue a", "venue b") + ";level b 1 1;event 1 b ^1 0");
        bad(1, MARKET + ";event ^-1 a 0 0");
        bad(1, MARKET + ";event 1 a ^-0 0");
        bad(1, MARKET + ";event 1 a 0 ^-1");
    }

    /** No TIME is less than that of the EVENT ahead, of whatever VENUE. */
    private static void risingTimes() {
        String two = MARKET + ";" + VENUE.replace("venue a", "venue b") + ";level b 1 1";
        whole(two + ";event 100 b 0 5;event # a 0 77", 100, 200, TextEdgesTest::timeOfEvent);
        whole(two + ";event 200 b 0 5;event # a 0 77", 200, 200, TextEdgesTest::timeOfEvent);
        bad(4, two + ";event 1 b 0 5;event 3 b 0 5;event ^2 b 0 5");
        good(two + ";event 1 b 0 5;event 3 b 0 5;event 3 b 0 5", 2);
    }

    // ---- TOKENS

    private static void lengthsOfTokens() {
        good(HEAD + VENUE.replace("venue a", "venue abcdef"), 1);
        bad(1, HEAD + "venue ^abcdefg plain lot 1 fee 0 least 0 delay 1");
        bad(1, HEAD + VENUE.replace("venue a", "venue abcdef") + ";level ^abcdefg 1 1");
        good(HEAD + VENUE.replace("venue a", "venue abcdef") + ";level abcdef 1 1", 1);
        good("order 009 limit 009 life 009;" + VENUE, 1);
        bad(1, "order ^0009 limit 9 life 9;" + VENUE);
        bad(1, "^ordero 9");
        bad(1, "^orderor 9");
        // small letters and digits part one another; like ones don't
        good("order9limit9life9;venue a plain lot1fee0least0delay1", 1);
        good("order9limit9life9;venue a plain lot1fee-0least0delay1", 1);
        bad(1, "order9limit9life9;^venuea plain lot1fee0least0delay1");
        bad(1, "order 9 limit 9 life 9;venue a ^plainlot 1");
        bad(1, "order 1 ^2 limit 9 life 9;" + VENUE);
        bad(1, "order 1 ^000 limit 9 life 9;" + VENUE);
        good("order 9 limit 9 life 9 ; " + VENUE + " ", 1);
    }

    /** All WORDS are NAMES but four. */
    private static void namesThatAreWords() {
        for (String name : List.of("order", "venue", "level", "event")) {
            bad(1, HEAD + "venue ^" + name + " plain lot 1 fee 0 least 0 delay 1");
            bad(1, HEAD + VENUE + ";level ^" + name + " 1 1");
            bad(1, MARKET + ";event 1 ^" + name + " 0 0");
        }
        for (String name : List.of("limit", "life", "plain", "tiers", "flat", "lot", "fee", "least", "delay", "orders", "orde",
            "venues", "even", "z", "zzzzzz")) {
            good(HEAD + VENUE.replace("venue a", "venue " + name) + ";level " + name + " 1 1;event 1 " + name + " 0 0", 1);
            bad(3, HEAD + VENUE.replace("venue a", "venue " + name) + ";venue ^" + name);
            bad(2, HEAD + VENUE + ";level ^" + name + " 1 1");
            bad(2, MARKET + ";event 1 ^" + name + " 0 0");
        }
    }

    /** NAMES that differ by how long they are, or by their last letter alone. */
    private static void namesOfOneLetter() {
        for (char c = 'a'; c <= 'z'; c++) {
            StringBuilder t = new StringBuilder(HEAD);
            for (int n = 1; n <= 5; n++) {
                t.append(VENUE.replace("venue a", "venue " + String.valueOf(c).repeat(n + 1))).append(';');
            }
            good(t + "level " + String.valueOf(c).repeat(2) + " 1 1", 5);
            bad(2, t + "level ^" + c + " 1 1");
            char next = c == 'z' ? 'a' : (char) (c + 1);
            bad(2, t + "level ^" + String.valueOf(c).repeat(5) + next + " 1 1");
            bad(2, t + "level ^" + next + String.valueOf(c).repeat(5) + " 1 1");
        }
        good(HEAD + VENUE + ";" + VENUE.replace("venue a", "venue aa"), 2);
        good(HEAD + VENUE.replace("venue a", "venue b") + ";" + VENUE.replace("venue a", "venue bb"), 2);
    }

    /** Each of 256 bytes, ahead of a text, within and behind it: a blank alone changes nothing. */
    private static void everyByte() {
        String text = HEAD + VENUE;
        for (int b = 0; b < 256; b++) {
            char c = (char) b;
            if (c == ' ') {
                good(" " + text, 1);
                good(text + "  ", 1);
                continue;
            }
            boolean wide = b > 126 || b < 32;
            String name = wide ? "byte " + b : String.valueOf(c);
            OrderSplit x = new OrderSplit();
            Checks.is("ahead: " + name, Checks.load(x, c + text), -1);
            Checks.is("its fault: " + name, x.fault(), 1);
            Checks.is("its place: " + name, x.where(), 0);
            Checks.is("behind: " + name, Checks.load(x, text + " " + c), -1);
            Checks.is("its fault: " + name, x.fault(), 1);
            Checks.is("its place: " + name, x.where(), text.length() + (c == ';' ? 2 : 1));
            Checks.is("within: " + name, Checks.load(x, "order " + c + " limit 1 life 1;" + VENUE), b >= '1' && b <= '9' ? 1 : -1);
            Checks.is("its fault: " + name, x.fault(), b >= '1' && b <= '9' ? 0 : b == '0' ? 4 : 1);
            Checks.is("its place: " + name, x.where(), b >= '1' && b <= '9' ? -1 : 6);
        }
    }

    /** Every LINE, with TOKENS that are of one sign or no other TOKEN when cut. */
    private static final String WHOLE_TEXT = "order 9 limit 9 life 9 ; venue a plain lot 1 fee - 1 least 0 delay 1 ;"
        + " venue b tiers lot 1 fee 1 least 0 delay 1 ; level a 5 1 ; level b 6 1 ; event 1 b 0 0 ; event 1 a 0 9";

    private static List<int[]> tokensOf(String text) {
        List<int[]> tokens = new ArrayList<>();
        Matcher m = Pattern.compile("[a-z]+|[0-9]+|[;-]").matcher(text);
        while (m.find()) {
            tokens.add(new int[] {m.start(), m.end()});
        }
        return tokens;
    }

    /** A text that ends anywhere: within a WORD it is FORM there, else FORM at the end, but for whole LINES. */
    private static void everyCut() {
        for (int n = 0; n <= WHOLE_TEXT.length(); n++) {
            String text = WHOLE_TEXT.substring(0, n);
            int place = n;
            for (int[] token : tokensOf(WHOLE_TEXT)) {
                if (token[0] < n && n < token[1]) {
                    place = token[0];
                }
            }
            String trimmed = text.trim();
            boolean lineEnds = !trimmed.isEmpty() && place == n
                && (trimmed.length() == WHOLE_TEXT.length() || WHOLE_TEXT.startsWith(trimmed + " ;"));
            boolean firstLine = lineEnds && trimmed.indexOf(';') < 0;
            OrderSplit x = new OrderSplit();
            Checks.feed(x, text);
            int venues = text.indexOf("venue b") >= 0 ? 2 : 1;
            Checks.is("cut at " + n, x.split(n), lineEnds && !firstLine ? venues : -1);
            Checks.is("fault() of the cut at " + n, x.fault(), firstLine ? 6 : lineEnds ? 0 : 1);
            Checks.is("where() of the cut at " + n, x.where(), lineEnds && !firstLine ? -1 : place);
        }
    }

    /** What is no TOKEN, ahead of each TOKEN and in its place: FORM at it. */
    private static void everyToken() {
        for (int[] token : tokensOf(WHOLE_TEXT)) {
            String ahead = WHOLE_TEXT.substring(0, token[0]);
            for (String wrong : List.of("#", "Order", "toolong", "1000", "_", "\t", "\0")) {
                bad(1, token[0], ahead + wrong + " " + WHOLE_TEXT.substring(token[0]));
                bad(1, token[0], ahead + wrong + WHOLE_TEXT.substring(token[1]));
            }
        }
    }

    // ---- how many there are, and what lacks

    private static String venues(int count) {
        StringBuilder t = new StringBuilder(HEAD.substring(0, HEAD.length() - 1));
        for (int v = 0; v < count; v++) {
            t.append(';').append(VENUE.replace("venue a", "venue " + (char) ('a' + v)));
        }
        return t.toString();
    }

    private static void manyVenues() {
        for (int count = 1; count <= 5; count++) {
            OrderSplit x = Checks.made(venues(count));
            Checks.is("VENUES", x.about(3), count);
            Checks.is("the last one", x.venue(count - 1, 1), 1);
            Checks.refused(x, "one more", x.venue(count, 1), Checks.MIN, 1);
        }
        bad(5, venues(5).length() + 1, venues(6));
        // at its first WORD, whatever comes behind it
        bad(5, venues(5) + ";^venue");
        bad(5, venues(5) + " ; ^venue a plain");
        bad(5, venues(5) + ";^venue order 999");
        good(venues(5) + ";level e 1 1;event 1 e 0 0", 5);
    }

    private static void manyLevels() {
        StringBuilder t = new StringBuilder(venues(5));
        for (int k = 1; k <= 6; k++) {
            t.append(";level a ").append(k).append(" 1");
        }
        good(t + ";event 1 a 5 0", 5);
        bad(4, t + ";event 1 a ^6 0");
        // at the NAME, whatever comes behind it
        bad(5, t + ";level ^a 7 1");
        bad(5, t + ";level ^a 0 1000");
        bad(5, t + ";level ^a");
        good(t + ";level b 1 1", 5);
        for (char c = 'b'; c <= 'e'; c++) {
            for (int k = 1; k <= 6; k++) {
                t.append(";level ").append(c).append(' ').append(k).append(" 1");
            }
        }
        OrderSplit x = Checks.made(t.toString());
        for (int v = 0; v < 5; v++) {
            Checks.is("six LEVELS of each", x.venue(v, 5), 6);
            Checks.is("the last one", x.level(v, 5, 0), 6);
            Checks.refused(x, "one more", x.level(v, 6, 0), -1, 1);
        }
        bad(5, t + ";level ^e 7 1");
        bad(2, t + ";level ^f 7 1");
    }

    private static void manyEvents() {
        for (int count = 0; count <= 10; count++) {
            OrderSplit x = Checks.made(MARKET + ";event 1 a 0 0".repeat(count));
            Checks.is("EVENTS", x.about(4), count);
        }
        bad(5, MARKET + ";event 1 a 0 0".repeat(10) + ";^event 1 a 0 0");
        // at its first WORD, whatever comes behind it
        bad(5, MARKET + ";event 1 a 0 0".repeat(10) + ";^event");
        bad(5, MARKET + ";event 200 a 0 0".repeat(10) + ";^event 1 z 9 999");
    }

    private static void lacks() {
        bad(6, "^venue");
        bad(6, "^" + VENUE);
        bad(6, "^level a 1 1");
        bad(6, "^event 1 a 0 0");
        bad(6, "  ^" + VENUE + ";" + HEAD + VENUE);
        bad(6, "order 9 limit 9 life 9^");
        bad(6, "order 9 limit 9 life 9   ^");
        bad(3, HEAD + "^order 9 limit 9 life 9;" + VENUE);
        bad(3, HEAD + VENUE + ";^order");
        bad(3, HEAD + VENUE + ";^order 0");
    }

    /** At the end nothing may be lacking and no LINE open: FORM is told, the lesser one. */
    private static void ofOnePlaceTheLeast() {
        bad(1, "^");
        bad(1, " ^");
        bad(1, HEAD + "^");
        bad(1, HEAD + "  ^");
        bad(1, HEAD + VENUE + ";^");
        bad(1, "order 9 limit 9 life^");
        bad(1, "order 9 limit 9 life ^");
    }

    private static void theFirstFromTheLeft() {
        bad(4, "order ^0 limit 0 life 0");
        bad(4, "order 9 limit ^0 life 0;order");
        bad(4, "order ^999 limit 1000");
        bad(1, "order 9 limit ^1000 life 0");
        bad(6, "^venue order");
        bad(1, "^venues order");
        bad(3, HEAD + VENUE + ";venue ^a order");
        bad(1, HEAD + VENUE + ";venue b ^order");
        bad(4, HEAD + VENUE + ";venue b plain lot ^0 fee 99");
        bad(2, HEAD + VENUE + ";level ^b 0 0");
        bad(4, HEAD + VENUE + ";level a ^0 0");
        bad(4, HEAD + VENUE + ";level a 1 ^0;level b");
        bad(4, MARKET + ";event ^0 b 9 999");
        bad(2, MARKET + ";event 1 ^b 9 999");
        bad(4, MARKET + ";event 1 a ^9 999");
        bad(4, MARKET + ";event 1 a 0 ^999 9");
        bad(1, MARKET + ";event 1 a 0 ^1000 9");
        bad(1, MARKET + ";event 1 a 0 9 ^9");
    }

    // ---- THE TAPE

    private static void tapeToItsEnd() {
        OrderSplit x = new OrderSplit();
        for (int n = 20; n <= 900; n += 20) {
            Checks.is("size(0) ahead", x.size(0), n - 20);
            Checks.is("feed to " + n, x.feed(0x20202020, 0x20202020, 0x20202020, 0x20202020, 0x20202020), n);
        }
        Checks.is("one more", x.feed(0, 0, 0, 0, 0), -1);
        Checks.is("and one more", x.feed(0, 0, 0, 0, 0), -1);
        Checks.is("size(0)", x.size(0), 900);
        Checks.refused(x, "split(901)", x.split(901), -1, 2);
        Checks.is("size(0)", x.size(0), 900);
        Checks.refused(x, "split(900)", x.split(900), -1, 4);
        Checks.is("900 blanks end at 900", x.where(), 900);
        Checks.is("size(0) then", x.size(0), 0);
        Checks.is("there is room again", x.feed(0, 0, 0, 0, 0), 20);

        String text = HEAD + VENUE;
        good(text + " ".repeat(900 - text.length()), 1);
        good(" ".repeat(900 - text.length()) + text, 1);
        bad(1, 899, text + " ".repeat(899 - text.length()) + "#");
        bad(1, 900, text + " ".repeat(899 - text.length()) + ";");
    }

    /** Of each number the highest byte first, below 0 or not. */
    private static void tapeByteByByte() {
        String text = HEAD + VENUE + " ".repeat(80 - HEAD.length() - VENUE.length());
        for (int i = 0; i < 80; i++) {
            for (char c : new char[] {0, 127, 128, 255}) {
                OrderSplit x = new OrderSplit();
                Checks.load(x, text.substring(0, i) + c + text.substring(i + 1));
                Checks.is("fault() of byte " + (int) c + " at " + i, x.fault(), 1);
                boolean inWord = i > 0 && text.charAt(i - 1) >= 'a' && text.charAt(i) >= 'a';
                Checks.is("where() of byte " + (int) c + " at " + i, x.where() == i || inWord && x.where() < i, true);
            }
        }
    }

    /** Only the first n bytes count, and the others are no more. */
    private static void tapeBehindASplit() {
        String text = HEAD + VENUE;
        OrderSplit x = new OrderSplit();
        Checks.feed(x, text + ";" + VENUE.replace("venue a", "venue b"));
        int fed = x.size(0);
        Checks.refused(x, "split(fed + 1)", x.split(fed + 1), -1, 2);
        Checks.is("THE TAPE stays", x.size(0), fed);
        Checks.is("split of the first", x.split(text.length()), 1);
        Checks.is("THE TAPE is empty", x.size(0), 0);
        Checks.refused(x, "split(1) of none", x.split(1), -1, 2);
        Checks.is("fault() isn't that of a 2", x.fault(), 0);
        Checks.refused(x, "split(0) of none", x.split(0), -1, 4);
        Checks.is("fault() of none", x.fault(), 1);
        Checks.is("where() of none", x.where(), 0);
        Checks.is("the SPLIT stays", x.about(3), 1);
        // one byte less makes another text of it
        Checks.feed(x, HEAD + VENUE.replace("delay 1", "delay 99"));
        Checks.is("delay 9", x.split(text.length()), 1);
        Checks.is("venue(0, 4)", x.venue(0, 4), 9);
        Checks.feed(x, HEAD + VENUE.replace("delay 1", "delay 99"));
        Checks.refused(x, "delay 99", x.split(text.length() + 1), -1, 4);
        Checks.is("where()", x.where(), text.length() - 1);
    }

    /** Promises 4 and 5: behind each sort of call. */
    private static void faultAndWhere() {
        OrderSplit x = new OrderSplit();
        Checks.is("fault() at first", x.fault(), 0);
        Checks.is("where() at first", x.where(), -1);
        Checks.load(x, HEAD + "level z");
        Checks.is("fault()", x.fault(), 2);
        Checks.is("where()", x.where(), HEAD.length() + 6);
        x.fault();
        x.where();
        x.trouble();
        x.size(9);
        Checks.dry(x, 0);
        x.feed(0, 0, 0, 0, 0);
        Checks.is("where() behind those that can't be refused", x.where(), HEAD.length() + 6);
        x.keep();
        Checks.is("where() behind one that is refused", x.where(), -1);
        Checks.is("fault() stays", x.fault(), 2);
        x.split(21);
        Checks.is("where() behind a 2", x.where(), -1);
        Checks.is("fault() behind a 2", x.fault(), 2);
        x.split(0);
        Checks.is("where() behind another 4", x.where(), 0);
        Checks.is("fault() behind another 4", x.fault(), 1);
        Checks.load(x, MARKET);
        Checks.is("where() behind a SPLIT", x.where(), -1);
        Checks.is("fault() behind a SPLIT", x.fault(), 0);
        Checks.load(x, "order 121");
        x.about(0);
        Checks.is("where() behind one that is granted", x.where(), -1);
        Checks.is("fault() behind one that is granted", x.fault(), 4);
    }
}

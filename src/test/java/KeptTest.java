/** Promises 37, 38, 40 and 41: what is kept, and what is told. */
public final class KeptTest {
    private static final String TEXT = "order 10 limit 20 life 2;venue a plain lot 1 fee 1 least 0 delay 2"
        + ";venue b flat lot 2 fee 0 least 3 delay 1;level a 10 5;level a 12 5;level b 11 6"
        + ";event 2 a 0 2;event 3 b 0 0;event 9 a 1 7";

    public static void main(String[] args) {
        keepAheadOfTheRun();
        keepInTheRun();
        boughtSinceThen();
        manyVenues();
        anew();
        whatIsKept();
        sizes();
        troubles();
        Checks.end("KeptTest");
    }

    /** All that calls tell, as one text. */
    private static String all(OrderSplit x) {
        StringBuilder t = new StringBuilder();
        for (int i = 0; i < 5; i++) {
            t.append(x.about(i)).append(' ');
        }
        for (int v = 0; v < 2; v++) {
            for (int i = 0; i < 7; i++) {
                t.append(x.venue(v, i)).append(' ').append(x.part(v, i)).append(' ');
            }
            for (int k = 0; k < 2; k++) {
                t.append(x.level(v, k, 1)).append(' ');
            }
        }
        for (int i = 0; i < 8; i++) {
            t.append(x.now(i)).append(' ').append(x.will(i)).append(' ');
        }
        for (int i = 0; i < 3; i++) {
            t.append(x.planned(i)).append(' ');
            for (int j = 0; j < 4; j++) {
                t.append(x.entry(j, i)).append(' ');
            }
        }
        return t.append(x.entries()).append(' ').append(x.size(2)).toString();
    }

    private static void same(String what, String got, String want) {
        Checks.is(what + ": " + got + " for " + want, got.equals(want), true);
    }

    private static void keepAheadOfTheRun() {
        OrderSplit x = Checks.made(TEXT);
        Checks.refused(x, "back()", x.back() ? 1 : 0, 0, 1);
        x.plan(0, 3);
        x.fee(1, -2);
        x.order(9);
        x.resize(0, 1, 6);
        String was = all(x);
        Checks.is("keep()", x.keep(), true);
        Checks.is("trouble()", x.trouble(), 0);
        same("keep() changes nothing", all(x), was);
        x.plan(0, 0);
        x.plan(1, 2);
        x.fee(0, 9);
        x.fee(1, 9);
        x.order(3);
        x.resize(0, 0, 1);
        x.resize(0, 1, 1);
        x.begin();
        x.ticks(20);
        Checks.is("back()", x.back(), true);
        Checks.is("trouble()", x.trouble(), 0);
        same("all is as it was", all(x), was);
        Checks.is("begin()", x.begin(), 1);
        Checks.is("of the PLAN", x.part(0, 1), 3);
        Checks.is("back() again", x.back(), true);
        same("all is as it was, again", all(x), was);
    }

    private static void keepInTheRun() {
        OrderSplit x = Checks.made(TEXT);
        x.begin();
        x.ticks(2);
        x.call(0);
        String was = all(x);
        x.keep();
        x.ticks(7);
        String later = all(x);
        x.ticks(10);
        x.back();
        same("in the run", all(x), was);
        x.ticks(7);
        same("it goes on as before", all(x), later);
        Checks.is("keep() anew", x.keep(), true);
        x.ticks(3);
        x.back();
        same("what was kept before is no more", all(x), later);
    }

    /** More units of an ENTRY, and more SLIP. */
    private static void boughtSinceThen() {
        OrderSplit x = Checks.made("order 9 limit 20 life 1;venue a plain lot 1 fee 0 least 0 delay 1;level a 5 3;level a 7 9");
        x.begin();
        x.resize(0, 0, 0);
        x.resize(0, 1, 2);
        x.ticks(2);
        int slip = x.now(4);
        Checks.is("SLIP", slip, 14 - 57 * 2 / 9);
        x.keep();
        x.resize(0, 1, 9);
        x.ticks(1);
        x.resize(0, 0, 2);
        x.ticks(1);
        Checks.is("bought(0, 7)", x.bought(0, 7), 2 + 5);
        Checks.is("SLIP, with two cheaper ones", x.now(4), slip - 4);
        x.back();
        Checks.is("bought(0, 7) as kept", x.bought(0, 7), 2);
        Checks.is("entry(0, 2) as kept", x.entry(0, 2), 2);
        Checks.is("SLIP as kept", x.now(4), slip);
    }

    private static final String FIVE = "order 50 limit 30 life 1;venue a flat lot 3 fee 2 least 1 delay 1"
        + ";venue b tiers lot 2 fee 2 least 1 delay 2;venue c plain lot 1 fee 2 least 1 delay 3"
        + ";venue d flat lot 1 fee 2 least 1 delay 1;venue e tiers lot 5 fee 2 least 2 delay 1"
        + ";level a 9 3;level b 8 4;level c 7 5;level d 6 6;level e 5 10;level e 6 10;level e 30 1;event 4 e 1 20";

    /** All rows are kept, to the last VENUE; and gone ahead with. */
    private static void manyVenues() {
        OrderSplit x = Checks.made(FIVE);
        Checks.is("begin()", x.begin(), 5);
        x.keep();
        int units = x.will(2);
        int spent = x.will(3);
        x.resize(4, 1, 0);
        x.ticks(30);
        x.back();
        Checks.is("level(4, 1, 1)", x.level(4, 1, 1), 10);
        for (int v = 0; v < 5; v++) {
            Checks.is("part(" + v + ", 0)", x.part(v, 0), 1);
        }
        Checks.is("units bought as foretold", x.ticks(100), units);
        Checks.is("SPENT as foretold", x.now(3), spent);
        // 3 + 4 + 5 + 6 + 20, and 10 more of the EVENT
        Checks.is("units bought", units, 48);
        Checks.is("SPENT", spent, 27 + 1 + 32 + 8 + 35 + 10 + 36 + 1 + 50 + 60 + 40 + 60 + 20);
    }

    /** Nothing of a SPLIT, or of its run, is left in the next one. */
    private static void anew() {
        OrderSplit x = Checks.made(FIVE);
        x.plan(0, 3);
        x.begin();
        x.call(4);
        x.ticks(1);
        Checks.load(x, FIVE);
        x.plan(4, 15);
        x.begin();
        x.resize(4, 0, 0);
        x.ticks(2);
        Checks.is("entries()", x.entries() > 0, true);
        Checks.is("SLIP", x.now(4), 60 + 20 - (50 + 30 + 30) * 10 / 15);
        Checks.load(x, TEXT);
        Checks.is("planned(0)", x.planned(0), 0);
        Checks.is("venue(0, 5)", x.venue(0, 5), 2);
        Checks.is("begin()", x.begin(), 2);
        int[] want = {0, 10, 0, 0, 0, 1, 0, 3};
        for (int i = 0; i < 8; i++) {
            Checks.is("now(" + i + ")", x.now(i), want[i]);
        }
        Checks.is("entries()", x.entries(), 0);
        Checks.is("part(0, 6)", x.part(0, 6), -2);
        Checks.is("will(3)", x.will(3), 117);
        Checks.is("will(0)", x.will(0), 10);
        x.ticks(8);
        Checks.load(x, "order 3 limit 9 life 1;venue z plain lot 1 fee 0 least 0 delay 1");
        Checks.is("venue(0, 5)", x.venue(0, 5), 0);
        Checks.is("about(4)", x.about(4), 0);
        Checks.is("planned(0)", x.planned(0), 0);
        Checks.is("begin()", x.begin(), 0);
        Checks.is("part(0, 0)", x.part(0, 0), 0);
        Checks.is("now(7)", x.now(7), 0);
        Checks.is("now(6)", x.now(6), 1);
        // other kinds and lots than those that were looked ahead with
        Checks.load(x, FIVE);
        x.begin();
        Checks.is("will(2)", x.will(2), 48);
    }

    /** THE TAPE isn't the SPLIT's, and FAULTS are those of calls. */
    private static void whatIsKept() {
        OrderSplit x = Checks.made(TEXT);
        x.keep();
        Checks.load(x, "order 0");
        x.feed(0, 0, 0, 0, 0);
        x.back();
        Checks.is("size(0)", x.size(0), 20);
        Checks.is("fault()", x.fault(), 4);
        Checks.is("where()", x.where(), -1);
        Checks.is("about(0)", x.about(0), 10);
    }

    /** Promise 40. */
    private static void sizes() {
        OrderSplit x = Checks.made(TEXT);
        x.about(9);
        Checks.is("size(0)", x.size(0), 0);
        Checks.is("size(1)", x.size(1), 0);
        Checks.is("size(2)", x.size(2), 0);
        Checks.is("size(3)", x.size(3), -1);
        Checks.is("size(-1)", x.size(-1), -1);
        Checks.is("trouble() isn't size's", x.trouble(), 1);
        x.feed(0, 0, 0, 0, 0);
        x.feed(0, 0, 0, 0, 0);
        Checks.is("size(0)", x.size(0), 40);
        x.keep();
        Checks.is("size(1)", x.size(1), 1);
        x.begin();
        Checks.is("size(2)", x.size(2), 1);
        x.back();
        Checks.is("size(1) stays", x.size(1), 1);
        Checks.is("size(2) of what was kept", x.size(2), 0);
    }

    /** Promise 41: of the latest call that may be refused. */
    private static void troubles() {
        OrderSplit x = Checks.made(TEXT);
        x.about(5);
        Checks.is("trouble()", x.trouble(), 1);
        Checks.is("trouble() again", x.trouble(), 1);
        x.feed(0, 0, 0, 0, 0);
        x.fault();
        x.where();
        x.size(0);
        Checks.dry(x, 0);
        Checks.is("trouble() behind calls that can't be refused", x.trouble(), 1);
        x.units(0);
        Checks.is("trouble() by 2", x.trouble(), 2);
        x.split(1);
        Checks.is("trouble() by 4", x.trouble(), 4);
        x.now(0);
        Checks.is("trouble() by 5", x.trouble(), 5);
        x.about(0);
        Checks.is("trouble() of none", x.trouble(), 0);
    }
}

/** Promises 37, 38, 40 and 41: what is kept, and what is told. */
public final class KeptTest {
    private static final String TEXT = "order 10 limit 20 life 2;venue a plain lot 1 fee 1 least 0 delay 2"
        + ";venue b flat lot 2 fee 0 least 3 delay 1;level a 10 5;level a 12 5;level b 11 6"
        + ";event 2 a 0 2;event 3 b 0 0;event 9 a 1 7";

    public static void main(String[] args) {
        keepAheadOfTheRun();
        keepInTheRun();
        whatIsKept();
        sizes();
        troubles();
        Checks.end("KeptTest");
    }

    /** All that calls tell, as one text. */
    private static String all(OrderSplit x) {
        StringBuilder t = new StringBuilder();
        for (int i = 0; i < 5; i++) {
            t.append(x.about(i)).append(' ');
        }
        for (int v = 0; v < 2; v++) {
            for (int i = 0; i < 7; i++) {
                t.append(x.venue(v, i)).append(' ').append(x.part(v, i)).append(' ');
            }
            for (int k = 0; k < 2; k++) {
                t.append(x.level(v, k, 1)).append(' ');
            }
        }
        for (int i = 0; i < 8; i++) {
            t.append(x.now(i)).append(' ').append(x.will(i)).append(' ');
        }
        for (int i = 0; i < 3; i++) {
            t.append(x.planned(i)).append(' ');
            for (int j = 0; j < 4; j++) {
                t.append(x.entry(j, i)).append(' ');
            }
        }
        return t.append(x.entries()).append(' ').append(x.size(2)).toString();
    }

    private static void same(String what, String got, String want) {
        Checks.is(what + ": " + got + " for " + want, got.equals(want), true);
    }

    private static void keepAheadOfTheRun() {
        OrderSplit x = Checks.made(TEXT);
        Checks.refused(x, "back()", x.back() ? 1 : 0, 0, 1);
        x.plan(0, 3);
        x.fee(1, -2);
        x.order(9);
        x.resize(0, 1, 6);
        String was = all(x);
        Checks.is("keep()", x.keep(), true);
        Checks.is("trouble()", x.trouble(), 0);
        same("keep() changes nothing", all(x), was);
        x.plan(0, 0);
        x.plan(1, 2);
        x.fee(0, 9);
        x.fee(1, 9);
        x.order(3);
        x.resize(0, 0, 1);
        x.resize(0, 1, 1);
        x.begin();
        x.ticks(20);
        Checks.is("back()", x.back(), true);
        Checks.is("trouble()", x.trouble(), 0);
        same("all is as it was", all(x), was);
        Checks.is("begin()", x.begin(), 1);
        Checks.is("of the PLAN", x.part(0, 1), 3);
        Checks.is("back() again", x.back(), true);
        same("all is as it was, again", all(x), was);
    }

    private static void keepInTheRun() {
        OrderSplit x = Checks.made(TEXT);
        x.begin();
        x.ticks(2);
        x.call(0);
        String was = all(x);
        x.keep();
        x.ticks(7);
        String later = all(x);
        x.ticks(10);
        x.back();
        same("in the run", all(x), was);
        x.ticks(7);
        same("it goes on as before", all(x), later);
        Checks.is("keep() anew", x.keep(), true);
        x.ticks(3);
        x.back();
        same("what was kept before is no more", all(x), later);
    }

    /** THE TAPE isn't the SPLIT's, and FAULTS are those of calls. */
    private static void whatIsKept() {
        OrderSplit x = Checks.made(TEXT);
        x.keep();
        Checks.load(x, "order 0");
        x.feed(0, 0, 0, 0, 0);
        x.back();
        Checks.is("size(0)", x.size(0), 20);
        Checks.is("fault()", x.fault(), 4);
        Checks.is("where()", x.where(), -1);
        Checks.is("about(0)", x.about(0), 10);
    }

    /** Promise 40. */
    private static void sizes() {
        OrderSplit x = Checks.made(TEXT);
        x.about(9);
        Checks.is("size(0)", x.size(0), 0);
        Checks.is("size(1)", x.size(1), 0);
        Checks.is("size(2)", x.size(2), 0);
        Checks.is("size(3)", x.size(3), -1);
        Checks.is("size(-1)", x.size(-1), -1);
        Checks.is("trouble() isn't size's", x.trouble(), 1);
        x.feed(0, 0, 0, 0, 0);
        x.feed(0, 0, 0, 0, 0);
        Checks.is("size(0)", x.size(0), 40);
        x.keep();
        Checks.is("size(1)", x.size(1), 1);
        x.begin();
        Checks.is("size(2)", x.size(2), 1);
        x.back();
        Checks.is("size(1) stays", x.size(1), 1);
        Checks.is("size(2) of what was kept", x.size(2), 0);
    }

    /** Promise 41: of the latest call that may be refused. */
    private static void troubles() {
        OrderSplit x = Checks.made(TEXT);
        x.about(5);
        Checks.is("trouble()", x.trouble(), 1);
        Checks.is("trouble() again", x.trouble(), 1);
        x.feed(0, 0, 0, 0, 0);
        x.fault();
        x.where();
        x.size(0);
        Checks.dry(x, 0);
        Checks.is("trouble() behind calls that can't be refused", x.trouble(), 1);
        x.units(0);
        Checks.is("trouble() by 2", x.trouble(), 2);
        x.split(1);
        Checks.is("trouble() by 4", x.trouble(), 4);
        x.now(0);
        Checks.is("trouble() by 5", x.trouble(), 5);
        x.about(0);
        Checks.is("trouble() of none", x.trouble(), 0);
    }
}

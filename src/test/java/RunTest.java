/** Promises 24 to 29 and 34 to 36: the order as it goes. */
public final class RunTest {
    private static final String FREE = " fee 0 least 0";
    /** THE BEST of 10: 4 at a (44), 6 at b (69). */
    private static final String TEXT = "order 10 limit 20 life 2;venue a plain lot 1 fee 1 least 0 delay 2"
        + ";venue b flat lot 2 fee 0 least 3 delay 1;level a 10 5;level a 12 5;level b 11 6"
        + ";event 2 a 0 2;event 3 b 0 0;event 9 a 1 7";
    private static final String ONE = "order 5 limit 20 life 4;venue a plain lot 1" + FREE + " delay 2;level a 10 5";

    public static void main(String[] args) {
        notBegun();
        aWholeRun();
        will();
        refusals();
        slip();
        calls();
        callThatComesToLate();
        wholeLots();
        capIsNoWorse();
        life();
        byPlan();
        planLater();
        over();
        eventsAsTold();
        neverBoughtTwice();
        thirtyLevels();
        Checks.end("RunTest");
    }

    private static void notBegun() {
        OrderSplit x = Checks.made(TEXT);
        Checks.refused(x, "now(0)", x.now(0), Checks.MIN, 5);
        Checks.refused(x, "now(8)", x.now(8), Checks.MIN, 1);
        Checks.refused(x, "part(0, 0)", x.part(0, 0), Checks.MIN, 5);
        Checks.refused(x, "part(2, 0)", x.part(2, 0), Checks.MIN, 1);
        Checks.refused(x, "entries()", x.entries(), -1, 5);
        Checks.refused(x, "bought(0, 10)", x.bought(0, 10), -1, 5);
        Checks.refused(x, "bought(2, 10)", x.bought(2, 10), -1, 1);
        Checks.refused(x, "will(0)", x.will(0), Checks.MIN, 5);
        Checks.refused(x, "will(7)", x.will(7), Checks.MIN, 1);
        Checks.refused(x, "ticks(1)", x.ticks(1), -1, 5);
        Checks.refused(x, "ticks(0)", x.ticks(0), -1, 2);
        Checks.refused(x, "call(0)", x.call(0), -1, 5);
        Checks.refused(x, "call(2)", x.call(2), -1, 1);
        Checks.is("entry(0, 0)", x.entry(0, 0), -1);
        Checks.is("size(2)", x.size(2), 0);
    }

    /** now(0 .. 7). */
    private static void now(OrderSplit x, int... want) {
        for (int i = 0; i < 8; i++) {
            Checks.is("now(" + i + ") at " + want[0], x.now(i), want[i]);
        }
        Checks.is("trouble()", x.trouble(), 0);
    }

    /** part(v, 0 .. 6). */
    private static void part(OrderSplit x, int v, int... want) {
        for (int i = 0; i < 7; i++) {
            Checks.is("part(" + v + ", " + i + ") at " + x.now(0), x.part(v, i), want[i]);
        }
        Checks.is("trouble()", x.trouble(), 0);
    }

    private static void ledger(OrderSplit x, int[]... want) {
        Checks.is("entries()", x.entries(), want.length);
        for (int i = 0; i < want.length; i++) {
            for (int what = 0; what < 3; what++) {
                Checks.is("entry(" + i + ", " + what + ")", x.entry(i, what), want[i][what]);
            }
            Checks.is("bought", x.bought(want[i][0], want[i][1]), want[i][2]);
        }
        Checks.is("trouble()", x.trouble(), 0);
        Checks.refused(x, "entry(" + want.length + ", 0)", x.entry(want.length, 0), -1, 1);
    }

    private static void aWholeRun() {
        OrderSplit x = Checks.made(TEXT);
        Checks.is("begin()", x.begin(), 2);
        Checks.is("size(2)", x.size(2), 1);
        now(x, 0, 10, 0, 0, 0, 1, 0, 3);
        part(x, 0, 1, 4, 0, 44, 10, 2, -2);
        part(x, 1, 1, 6, 0, 69, 11, 1, -2);
        ledger(x);
        Checks.is("tick 1", x.ticks(1), 6);
        now(x, 1, 10, 6, 69, 0, 1, 0, 3);
        part(x, 0, 1, 4, 0, 44, 10, 2, -2);
        part(x, 1, 3, 6, 6, 69, 11, 2, -2);
        Checks.is("level(1, 0, 1)", x.level(1, 0, 1), 0);
        Checks.is("tick 2", x.ticks(1), 2);
        now(x, 2, 4, 8, 89, 0, 1, 0, 2);
        part(x, 0, 2, 4, 2, 44, 10, 4, -2);
        part(x, 1, 0, 0, 0, 0, 0, -2, -2);
        Checks.is("tick 3", x.ticks(1), 0);
        now(x, 3, 4, 8, 89, 0, 1, 0, 1);
        part(x, 0, 2, 4, 2, 44, 10, 4, -2);
        Checks.is("tick 4", x.ticks(1), 0);
        now(x, 4, 4, 8, 91, 0, 1, 0, 1);
        part(x, 0, 3, 4, 2, 44, 10, 6, -2);
        Checks.is("tick 5", x.ticks(1), 0);
        now(x, 5, 4, 8, 91, 0, 1, 0, 1);
        Checks.is("tick 6", x.ticks(1), 0);
        now(x, 6, 2, 8, 91, 0, 2, 0, 1);
        part(x, 0, 1, 2, 0, 26, 12, 8, -2);
        part(x, 1, 0, 0, 0, 0, 0, -2, -2);
        Checks.is("ticks 7 and 8", x.ticks(2), 2);
        now(x, 8, 2, 10, 117, 0, 2, 0, 1);
        Checks.is("ticks 9 and 10", x.ticks(2), 0);
        now(x, 10, 0, 10, 117, 0, 2, 1, 0);
        Checks.is("ticks on", x.ticks(200), 0);
        now(x, 210, 0, 10, 117, 0, 2, 1, 0);
        Checks.is("level(0, 1, 1)", x.level(0, 1, 1), 7);
        ledger(x, new int[] {1, 11, 6}, new int[] {0, 10, 2}, new int[] {0, 12, 2});
        Checks.is("bought(0, 11)", x.bought(0, 11), 0);
        Checks.is("bought(1, 12)", x.bought(1, 12), 0);
        Checks.is("bought(0, -1)", x.bought(0, -1), 0);
        Checks.is("trouble()", x.trouble(), 0);
    }

    /** Promise 29. */
    private static void will() {
        OrderSplit x = Checks.made(TEXT);
        x.begin();
        int[] want = {10, 0, 10, 117, 0, 2, 1};
        for (int tick = 0; tick <= 11; tick++) {
            want[0] = Math.max(10, tick);
            for (int i = 0; i < 7; i++) {
                Checks.is("will(" + i + ") at " + tick, x.will(i), want[i]);
                Checks.is("trouble()", x.trouble(), 0);
            }
            Checks.is("TIME stays", x.now(0), tick);
            x.ticks(1);
        }
        Checks.refused(x, "will(7)", x.will(7), Checks.MIN, 1);
        Checks.refused(x, "will(-1)", x.will(-1), Checks.MIN, 1);
        // what is done changes what will come
        OrderSplit y = Checks.made(ONE);
        y.begin();
        Checks.is("will(2)", y.will(2), 5);
        y.resize(0, 0, 3);
        Checks.is("will(2) of less", y.will(2), 3);
        Checks.is("will(0) of less", y.will(0), 2 + 4 + 2);
        y.call(0);
        Checks.is("will(0), called", y.will(0), 4);
        Checks.is("level(0, 0, 1)", y.level(0, 0, 1), 3);
    }

    private static void refusals() {
        OrderSplit x = Checks.made(TEXT);
        x.begin();
        Checks.refused(x, "begin() again", x.begin(), -1, 5);
        Checks.refused(x, "now(8)", x.now(8), Checks.MIN, 1);
        Checks.refused(x, "now(-1)", x.now(-1), Checks.MIN, 1);
        Checks.refused(x, "part(0, 7)", x.part(0, 7), Checks.MIN, 1);
        Checks.refused(x, "part(0, -1)", x.part(0, -1), Checks.MIN, 1);
        Checks.refused(x, "part(2, 0)", x.part(2, 0), Checks.MIN, 1);
        Checks.refused(x, "part(-1, 0)", x.part(-1, 0), Checks.MIN, 1);
        Checks.refused(x, "ticks(0)", x.ticks(0), -1, 2);
        Checks.refused(x, "ticks(201)", x.ticks(201), -1, 2);
        Checks.refused(x, "ticks(-1)", x.ticks(-1), -1, 2);
        Checks.is("TIME stays", x.now(0), 0);
        x.ticks(1);
        Checks.refused(x, "entry(0, 3)", x.entry(0, 3), -1, 1);
        Checks.refused(x, "entry(0, -1)", x.entry(0, -1), -1, 1);
        Checks.refused(x, "entry(-1, 0)", x.entry(-1, 0), -1, 1);
        Checks.refused(x, "bought(-1, 11)", x.bought(-1, 11), -1, 1);
        Checks.refused(x, "bought(2, 11)", x.bought(2, 11), -1, 1);
    }

    private static void slip() {
        String text = "order 3 limit 20 life 1;venue a plain lot 1" + FREE + " delay 1;level a 10 2;level a 14 5";
        OrderSplit x = Checks.made(text);
        x.begin();
        part(x, 0, 1, 3, 0, 34, 14, 1, -2);
        x.resize(0, 0, 0);
        Checks.is("all at the dearer PRICE", x.ticks(1), 3);
        Checks.is("SLIP", x.now(4), 42 - 34);
        OrderSplit y = Checks.made(text);
        y.begin();
        y.resize(0, 0, 0);
        y.resize(0, 1, 1);
        Checks.is("one of three", y.ticks(1), 1);
        Checks.is("no SLIP ahead of its end", y.now(4), 0);
        Checks.is("it ends", y.ticks(1), 0);
        Checks.is("SLIP by the lower WHOLE", y.now(4), 14 - 11);
        // below 0: HOPE is 1 + 1 + 3 - 27 = -22, a third of it -7.33
        OrderSplit z = Checks.made("order 3 limit 20 life 1;venue a plain lot 1 fee -9 least 0 delay 1;level a 1 2;level a 3 5");
        z.begin();
        z.resize(0, 0, 1);
        z.resize(0, 1, 0);
        z.ticks(2);
        Checks.is("SPENT below 0", z.now(3), -8);
        Checks.is("SLIP by the lower WHOLE below 0", z.now(4), 0);
        // nothing bought: nothing spent, and no charge
        OrderSplit n = Checks.made("order 3 limit 20 life 1;venue a flat lot 1 fee 0 least 9 delay 1;level a 5 3");
        n.begin();
        n.resize(0, 0, 0);
        n.ticks(2);
        part(n, 0, 3, 3, 0, 24, 5, 3, -2);
        Checks.is("SPENT", n.now(3), 0);
        Checks.is("SLIP", n.now(4), 0);
        // two PARTS slip together
        OrderSplit two = Checks.made("order 4 limit 20 life 1;venue a plain lot 1" + FREE + " delay 1;venue b plain lot 1" + FREE
            + " delay 1;level a 5 1;level a 7 9;level b 5 1;level b 7 9");
        two.plan(0, 2);
        two.plan(1, 2);
        two.begin();
        two.resize(0, 0, 0);
        two.resize(1, 0, 9);
        two.ticks(1);
        Checks.is("SLIP of both", two.now(4), 2 - 2);
        Checks.is("SPENT of both", two.now(3), 14 + 10);
    }

    /** Promise 36. */
    private static void calls() {
        OrderSplit x = Checks.made(ONE);
        Checks.is("begin()", x.begin(), 1);
        x.resize(0, 0, 3);
        x.ticks(2);
        part(x, 0, 2, 5, 3, 50, 10, 6, -2);
        Checks.is("call(0)", x.call(0), 4);
        Checks.is("trouble()", x.trouble(), 0);
        part(x, 0, 2, 5, 3, 50, 10, 6, 4);
        Checks.refused(x, "call(0) again", x.call(0), -1, 5);
        Checks.refused(x, "call(1)", x.call(1), -1, 1);
        Checks.refused(x, "call(-1)", x.call(-1), -1, 1);
        Checks.is("tick 3", x.ticks(1), 0);
        Checks.refused(x, "call(0) once more", x.call(0), -1, 5);
        x.resize(0, 0, 1);
        Checks.is("it buys as the CALL comes", x.ticks(1), 1);
        part(x, 0, 3, 5, 4, 50, 10, 6, -2);
        Checks.refused(x, "call(0) behind its end", x.call(0), -1, 5);
        Checks.is("REST", x.now(1), 5);
        x.ticks(2);
        now(x, 6, 1, 4, 40, 0, 1, 1, 0);
        Checks.refused(x, "call(0) without a PART", x.call(0), -1, 5);

        OrderSplit y = Checks.made(ONE);
        y.begin();
        Checks.is("call(0) on its way", y.call(0), 2);
        y.resize(0, 0, 2);
        Checks.is("tick 1", y.ticks(1), 0);
        part(y, 0, 1, 5, 0, 50, 10, 2, 2);
        Checks.is("it comes with its CALL, and buys", y.ticks(1), 2);
        Checks.is("it ends", y.part(0, 0), 3);
        y.resize(0, 0, 9);
        Checks.is("the answer comes, and the rest is sent anew", y.ticks(2), 0);
        now(y, 4, 3, 2, 20, 0, 2, 0, 0);
        part(y, 0, 1, 3, 0, 30, 10, 6, -2);
        Checks.is("it can be called again", y.call(0), 6);
    }

    /** A PART that ends ahead of its CALL: the CALL is on its way still, and does nothing. */
    private static void callThatComesToLate() {
        OrderSplit x = Checks.made(ONE);
        x.begin();
        x.ticks(1);
        Checks.is("call(0)", x.call(0), 3);
        Checks.is("all is bought ahead of it", x.ticks(1), 5);
        part(x, 0, 3, 5, 5, 50, 10, 4, 3);
        x.ticks(1);
        part(x, 0, 3, 5, 5, 50, 10, 4, -2);
        x.ticks(1);
        now(x, 4, 0, 5, 50, 0, 1, 1, 0);
        Checks.is("SPENT once", x.now(3), 50);
    }

    private static void wholeLots() {
        OrderSplit x = Checks.made("order 9 limit 20 life 3;venue a plain lot 3" + FREE + " delay 1;level a 10 4;level a 12 6");
        x.begin();
        x.resize(0, 0, 1);
        x.resize(0, 1, 4);
        Checks.is("3 of the 5 that there are", x.ticks(1), 3);
        ledger(x, new int[] {0, 10, 1}, new int[] {0, 12, 2});
        Checks.is("left there", x.level(0, 1, 1), 2);
        x.resize(0, 0, 2);
        Checks.is("3 of 4", x.ticks(1), 3);
        ledger(x, new int[] {0, 10, 3}, new int[] {0, 12, 3});
        Checks.is("none of 1", x.ticks(1), 0);
        x.resize(0, 0, 9);
        Checks.is("no more than it is", x.ticks(1), 3);
        Checks.is("left there", x.level(0, 0, 1), 6);
        ledger(x, new int[] {0, 10, 6}, new int[] {0, 12, 3});
    }

    private static void capIsNoWorse() {
        OrderSplit x = Checks.made("order 3 limit 20 life 2;venue a plain lot 1" + FREE
            + " delay 1;level a 8 1;level a 10 3;level a 12 9;level a 21 9");
        x.resize(0, 0, 0);
        x.begin();
        Checks.is("CAP", x.part(0, 4), 10);
        x.resize(0, 0, 1);
        x.resize(0, 1, 1);
        Checks.is("a cheaper one, too, but no dearer one", x.ticks(1), 2);
        ledger(x, new int[] {0, 8, 1}, new int[] {0, 10, 1});
        x.ticks(2);
        Checks.is("it ends by LIFE", x.part(0, 0), 3);
        x.ticks(1);
        Checks.is("the next ROUND", x.now(5), 2);
        Checks.is("CAP of the next", x.part(0, 4), 12);
        Checks.is("HOPE of the next", x.part(0, 3), 12);
        // within LIMIT alone
        OrderSplit y = Checks.made("order 3 limit 20 life 2;venue a plain lot 1" + FREE + " delay 1;level a 8 1;level a 21 9");
        Checks.is("begin()", y.begin(), 1);
        Checks.is("units", y.part(0, 1), 1);
        y.ticks(2);
        now(y, 2, 2, 1, 8, 0, 1, 1, 0);
    }

    /** It buys from the TIME at which it comes to that at which it has RESTED for LIFE. */
    private static void life() {
        OrderSplit x = Checks.made("order 9 limit 20 life 2;venue a plain lot 1" + FREE + " delay 3;level a 10 9");
        x.begin();
        x.resize(0, 0, 1);
        Checks.is("it isn't there yet", x.ticks(2), 0);
        Checks.is("it comes", x.ticks(1), 1);
        part(x, 0, 2, 9, 1, 90, 10, 5, -2);
        x.resize(0, 0, 1);
        Checks.is("it RESTS", x.ticks(1), 1);
        x.resize(0, 0, 1);
        Checks.is("it has RESTED for LIFE", x.ticks(1), 1);
        part(x, 0, 3, 9, 3, 90, 10, 8, -2);
        x.resize(0, 0, 5);
        Checks.is("it buys no more", x.ticks(2), 0);
        Checks.is("REST", x.now(1), 9);
        x.ticks(1);
        now(x, 8, 6, 3, 30, 0, 2, 0, 0);
        part(x, 0, 1, 5, 0, 50, 10, 11, -2);
    }

    /** The first ROUND is the PLAN's, if there is one that can be had; later ones never. */
    private static void byPlan() {
        String text = "order 6 limit 20 life 2;venue a plain lot 1" + FREE + " delay 1;venue b plain lot 2" + FREE
            + " delay 1;level a 10 6;level b 12 6";
        OrderSplit x = Checks.made(text);
        x.plan(1, 4);
        Checks.is("begin()", x.begin(), 1);
        part(x, 1, 1, 4, 0, 48, 12, 1, -2);
        Checks.is("part(0, 0)", x.part(0, 0), 0);
        x.ticks(2);
        Checks.is("ROUNDS", x.now(5), 2);
        part(x, 0, 1, 2, 0, 20, 10, 3, -2);
        Checks.is("part(1, 0)", x.part(1, 0), 0);
        OrderSplit y = Checks.made(text);
        y.plan(1, 4);
        y.resize(1, 0, 3);
        Checks.is("begin()", y.begin(), 1);
        part(y, 0, 1, 6, 0, 60, 10, 1, -2);
        OrderSplit z = Checks.made(text);
        z.plan(1, 4);
        z.order(3);
        z.begin();
        Checks.is("a PLAN of more than ORDER", z.part(0, 1), 3);
        OrderSplit both = Checks.made(text);
        both.plan(0, 1);
        both.plan(1, 2);
        Checks.is("begin() of two", both.begin(), 2);
    }

    /** The first ROUND may begin later than the run; one of the PLAN, too. */
    private static void planLater() {
        OrderSplit x = Checks.made("order 6 limit 20 life 2;venue a plain lot 1" + FREE + " delay 1;level a 10 6;event 3 a 0 9");
        x.plan(0, 2);
        x.resize(0, 0, 0);
        Checks.is("begin()", x.begin(), 0);
        now(x, 0, 6, 0, 0, 0, 0, 0, 1);
        x.ticks(2);
        now(x, 2, 6, 0, 0, 0, 0, 0, 1);
        x.ticks(1);
        now(x, 3, 6, 0, 0, 0, 1, 0, 0);
        part(x, 0, 1, 2, 0, 20, 10, 4, -2);
        x.ticks(2);
        now(x, 5, 4, 2, 20, 0, 2, 0, 0);
        Checks.is("the rest", x.part(0, 1), 4);
    }

    private static void over() {
        OrderSplit x = Checks.made(ONE);
        x.resize(0, 0, 0);
        Checks.is("begin()", x.begin(), 0);
        now(x, 0, 5, 0, 0, 0, 0, 1, 0);
        for (int i = 0; i < 7; i++) {
            Checks.is("will(" + i + ")", x.will(i), x.now(i));
        }
        x.resize(0, 0, 9);
        Checks.is("it isn't OVER any more", x.now(6), 0);
        Checks.is("a ROUND begins with a TICK", x.now(5), 0);
        x.ticks(1);
        now(x, 1, 5, 0, 0, 0, 1, 0, 0);
        Checks.is("part(0, 5)", x.part(0, 5), 3);
        x.ticks(4);
        now(x, 5, 0, 5, 50, 0, 1, 1, 0);
        // REST is 0: OVER, though there are EVENTS to come
        OrderSplit y = Checks.made(ONE + ";event 50 a 0 9");
        y.begin();
        y.ticks(4);
        now(y, 4, 0, 5, 50, 0, 1, 1, 1);
        // units left, and an EVENT to come: not OVER
        OrderSplit z = Checks.made(ONE.replace("order 5", "order 6") + ";event 50 a 0 0");
        z.begin();
        z.ticks(49);
        now(z, 49, 1, 5, 50, 0, 1, 0, 1);
        z.ticks(1);
        now(z, 50, 1, 5, 50, 0, 1, 1, 0);
        Checks.is("will(0)", z.will(0), 50);
    }

    /** Of one TIME in their order, ahead of what PARTS buy, and whatever was bought before. */
    private static void eventsAsTold() {
        OrderSplit x = Checks.made(ONE + ";level a 12 4;event 2 a 0 7;event 2 a 0 1;event 2 a 1 8;event 4 a 0 99");
        x.begin();
        Checks.is("events to come", x.now(7), 4);
        Checks.is("ticks(2)", x.ticks(2), 1);
        Checks.is("events to come", x.now(7), 1);
        Checks.is("about(4)", x.about(4), 4);
        Checks.is("level(0, 0, 1)", x.level(0, 0, 1), 0);
        Checks.is("level(0, 1, 1)", x.level(0, 1, 1), 8);
        Checks.is("ticks(2)", x.ticks(2), 4);
        Checks.is("level(0, 0, 1)", x.level(0, 0, 1), 95);
    }

    /** Bought, but not told of: it isn't sent again. */
    private static void neverBoughtTwice() {
        OrderSplit x = Checks.made("order 20 limit 20 life 1;venue a plain lot 1" + FREE + " delay 1;venue b plain lot 1" + FREE
            + " delay 9;level a 10 10;level b 10 10");
        x.begin();
        x.resize(1, 0, 4);
        x.ticks(2);
        x.resize(0, 0, 99);
        now(x, 2, 10, 10, 100, 0, 1, 0, 0);
        x.ticks(16);
        now(x, 18, 10, 14, 140, 0, 1, 0, 0);
        x.ticks(1);
        now(x, 19, 6, 14, 140, 0, 2, 0, 0);
        x.ticks(50);
        now(x, 69, 0, 20, 200, 0, 2, 1, 0);
    }

    /** As many LEVELS as there can be: each a marginal price and an ENTRY of its own. */
    private static void thirtyLevels() {
        StringBuilder t = new StringBuilder("order 30 limit 30 life 1");
        for (char c = 'a'; c < 'f'; c++) {
            t.append(";venue ").append(c).append(" plain lot 1").append(FREE).append(" delay 1");
        }
        for (int i = 0; i < 30; i++) {
            t.append(";level ").append((char) ('a' + i % 5)).append(' ').append(i + 1).append(" 1");
        }
        OrderSplit x = Checks.made(t.toString());
        Checks.is("bound(30)", x.bound(30), 465);
        Checks.is("margin(30)", x.margin(30), 30);
        Checks.is("margin(29)", x.margin(29), 29);
        Checks.is("best(30)", x.best(30), 465);
        Checks.is("begin()", x.begin(), 5);
        x.ticks(2);
        now(x, 2, 0, 30, 465, 0, 1, 1, 0);
        Checks.is("entries()", x.entries(), 30);
        for (int i = 0; i < 30; i++) {
            Checks.is("VENUE of " + i, x.entry(i, 0), i / 6);
            Checks.is("PRICE of " + i, x.entry(i, 1), 1 + i / 6 + i % 6 * 5);
            Checks.is("units of " + i, x.entry(i, 2), 1);
        }
    }
}

/**
 * Terms III and promises 24 to 29 and 32 to 38, at their edges: DELAY, LIFE, CALLS and EVENTS at
 * their TIME and one TICK ahead of it, when a ROUND begins and when it is OVER, what a PART buys.
 */
public final class RunEdgesTest {
    private static final String FREE = " fee 0 least 0";

    public static void main(String[] args) {
        atTimeZero();
        delays();
        lives();
        callAtEachTime();
        callAndLifeTogether();
        callAheadOfNothing();
        callAgain();
        eventsAtTheirTimes();
        eventsOfOneTime();
        eventsAheadOfPurchases();
        purchasesByLots();
        purchasesByCap();
        purchasesOfPartsLeft();
        roundsBeginWithTheLastAnswer();
        restByAnswers();
        firstRoundByPlan();
        planOfAllOrNothing();
        planThatBecomesFit();
        overByRest();
        overByEvents();
        overByLots();
        ticksToTheirEnds();
        chargeAsItEnds();
        slipByLowerWholes();
        slipOfOneUnit();
        ledgerInItsOrder();
        ledgerThatIsFull();
        ledgerThatWasGoneBack();
        willIsWhatComes();
        willChangesNothing();
        resizeInTheRun();
        keptInEachState();
        callsOfTheSplitBefore();
        Checks.end("RunEdgesTest");
    }

    private static OrderSplit one(int order, int life, int lot, int delay, String behind) {
        return Checks.made("order " + order + " limit 50 life " + life + ";venue a plain lot " + lot + FREE + " delay " + delay + behind);
    }

    private static void parts(OrderSplit x, int v, int... want) {
        for (int what = 0; what < want.length; what++) {
            Checks.is("part(" + v + ", " + what + ") at " + x.now(0), x.part(v, what), want[what]);
        }
        Checks.is("trouble()", x.trouble(), 0);
    }

    private static void now(OrderSplit x, int... want) {
        for (int what = 0; what < want.length; what++) {
            Checks.is("now(" + what + ") at " + want[0], x.now(what), want[what]);
        }
        Checks.is("trouble()", x.trouble(), 0);
    }

    // ---- TIME

    private static void atTimeZero() {
        OrderSplit x = one(5, 1, 1, 1, ";level a 10 9;event 1 a 0 9");
        Checks.refused(x, "now(0)", x.now(0), Checks.MIN, 5);
        Checks.is("begin()", x.begin(), 1);
        now(x, 0, 5, 0, 0, 0, 1, 0, 1);
        parts(x, 0, 1, 5, 0, 50, 10, 1, -2);
        Checks.is("entries()", x.entries(), 0);
        Checks.is("bought(0, 10)", x.bought(0, 10), 0);
        Checks.is("level(0, 0, 1): nothing is bought yet", x.level(0, 0, 1), 9);
        Checks.refused(x, "entry(0, 0)", x.entry(0, 0), -1, 1);
    }

    /** It comes DELAY behind its sending, and its answer DELAY behind its end. */
    private static void delays() {
        for (int delay = 1; delay <= 9; delay++) {
            OrderSplit x = one(5, 1, 1, delay, ";level a 10 5");
            x.begin();
            parts(x, 0, 1, 5, 0, 50, 10, delay, -2);
            for (int t = 1; t < delay; t++) {
                Checks.is("on its way at " + t, x.ticks(1), 0);
                parts(x, 0, 1, 5, 0, 50, 10, delay, -2);
            }
            Checks.is("it comes at " + delay, x.ticks(1), 5);
            for (int t = delay; t < 2 * delay; t++) {
                parts(x, 0, 3, 5, 5, 50, 10, 2 * delay, -2);
                now(x, t, 5, 5, 50, 0, 1, 0, 0);
                x.ticks(1);
            }
            parts(x, 0, 0, 0, 0, 0, 0, -2, -2);
            now(x, 2 * delay, 0, 5, 50, 0, 1, 1, 0);
        }
    }

    /** It RESTS from its coming on, and ends when it has RESTED for LIFE; it buys in that TICK still. */
    private static void lives() {
        for (int life : new int[] {1, 2, 3, 19, 20}) {
            OrderSplit x = one(90, life, 1, 2, ";level a 10 90");
            x.begin();
            x.resize(0, 0, 0);
            x.ticks(1);
            for (int t = 2; t < 2 + life; t++) {
                x.resize(0, 0, 1);
                Checks.is("it buys at " + t, x.ticks(1), 1);
                parts(x, 0, 2, 90, t - 1, 900, 10, 2 + life, -2);
            }
            x.resize(0, 0, 1);
            Checks.is("it buys as it ends", x.ticks(1), 1);
            parts(x, 0, 3, 90, life + 1, 900, 10, 2 + life + 2, -2);
            x.resize(0, 0, 1);
            Checks.is("it buys no more", x.ticks(1), 0);
            Checks.is("level(0, 0, 1)", x.level(0, 0, 1), 1);
            x.ticks(1);
            now(x, life + 4, 90 - life - 1, life + 1, 10 * (life + 1), 0, 2, 0, 0);
            parts(x, 0, 1, 1, 0, 10, 10, life + 6, -2);
        }
    }

    // ---- CALLS

    /** Sent at each TIME of a PART that comes at 3 and would end at 8. */
    private static void callAtEachTime() {
        for (int sent = 0; sent < 8; sent++) {
            OrderSplit x = one(90, 5, 1, 3, ";level a 10 90");
            x.begin();
            x.resize(0, 0, 0);
            if (sent > 0) {
                x.ticks(sent);
            }
            parts(x, 0, sent < 3 ? 1 : 2, 90, 0, 900, 10, sent < 3 ? 3 : 8, -2);
            Checks.is("call(0) at " + sent, x.call(0), sent + 3);
            Checks.is("part(0, 6)", x.part(0, 6), sent + 3);
            Checks.refused(x, "call(0) again", x.call(0), -1, 5);
            int end = Math.min(sent + 3, 8);
            for (int t = sent + 1; t < end; t++) {
                x.ticks(1);
                Checks.is("not ended at " + t, x.part(0, 0), t < 3 ? 1 : 2);
                Checks.is("part(0, 6) at " + t, x.part(0, 6), sent + 3);
            }
            x.ticks(1);
            Checks.is("ended", x.part(0, 0), 3);
            Checks.is("its answer comes", x.part(0, 5), end + 3);
            Checks.is("a CALL that has come is told no more, one on its way is", x.part(0, 6), sent + 3 > end ? sent + 3 : -2);
            Checks.refused(x, "call(0) behind its end", x.call(0), -1, 5);
            x.ticks(3);
            Checks.is("no PART", x.part(0, 0), 0);
            Checks.is("part(0, 6)", x.part(0, 6), -2);
            now(x, end + 3, 90, 0, 0, 0, 1, 1, 0);
        }
    }

    private static void callAndLifeTogether() {
        OrderSplit x = one(9, 2, 1, 2, ";level a 10 9");
        x.begin();
        x.resize(0, 0, 3);
        x.ticks(2);
        Checks.is("call(0), that comes with the end of LIFE", x.call(0), 4);
        x.ticks(1);
        x.resize(0, 0, 2);
        Checks.is("what is bought till then stays bought", x.ticks(1), 2);
        parts(x, 0, 3, 9, 5, 90, 10, 6, -2);
        now(x, 4, 9, 5, 50, 0, 1, 0, 0);
        x.ticks(2);
        now(x, 6, 4, 5, 50, 0, 1, 1, 0);
    }

    /** All is bought ahead of the CALL, or as it comes. */
    private static void callAheadOfNothing() {
        OrderSplit x = one(5, 9, 1, 2, ";level a 10 5");
        x.begin();
        x.call(0);
        Checks.is("all is bought as the CALL comes", x.ticks(2), 5);
        parts(x, 0, 3, 5, 5, 50, 10, 4, -2);
        Checks.is("SPENT once", x.now(3), 50);
        OrderSplit y = one(5, 9, 1, 2, ";level a 10 5");
        y.begin();
        y.ticks(1);
        y.call(0);
        Checks.is("all is bought ahead of the CALL", y.ticks(1), 5);
        parts(y, 0, 3, 5, 5, 50, 10, 4, 3);
        y.ticks(1);
        parts(y, 0, 3, 5, 5, 50, 10, 4, -2);
        y.ticks(1);
        now(y, 4, 0, 5, 50, 0, 1, 1, 0);
    }

    /** A CALL is its PART's: the next PART there can be called again. */
    private static void callAgain() {
        OrderSplit x = one(9, 5, 1, 1, ";level a 10 9;event 3 a 0 9");
        x.begin();
        x.resize(0, 0, 1);
        Checks.is("call(0)", x.call(0), 1);
        Checks.is("ticks(1)", x.ticks(1), 1);
        x.ticks(1);
        now(x, 2, 8, 1, 10, 0, 1, 0, 1);
        Checks.refused(x, "call(0) without a PART", x.call(0), -1, 5);
        x.ticks(1);
        parts(x, 0, 1, 8, 0, 80, 10, 4, -2);
        Checks.is("call(0) of the next", x.call(0), 4);
        Checks.is("ticks(1)", x.ticks(1), 8);
        x.ticks(1);
        now(x, 5, 0, 9, 90, 0, 2, 1, 0);
    }

    // ---- EVENTS

    private static void eventsAtTheirTimes() {
        for (int time : new int[] {1, 2, 199, 200}) {
            OrderSplit x = one(5, 1, 1, 1, ";level a 60 1;event " + time + " a 0 99");
            Checks.is("begin()", x.begin(), 0);
            if (time > 1) {
                x.ticks(time - 1);
            }
            Checks.is("SIZE ahead of " + time, x.level(0, 0, 1), 1);
            Checks.is("EVENTS to come", x.now(7), 1);
            Checks.is("OVER", x.now(6), 0);
            x.ticks(1);
            Checks.is("SIZE at " + time, x.level(0, 0, 1), 99);
            Checks.is("EVENTS to come", x.now(7), 0);
            Checks.is("OVER, for LIMIT is less", x.now(6), 1);
            x.resize(0, 0, 7);
            x.ticks(200);
            Checks.is("it comes once", x.level(0, 0, 1), 7);
        }
    }

    /** As told: the last one of a TIME stands; ten of them. */
    private static void eventsOfOneTime() {
        StringBuilder t = new StringBuilder(";level a 60 1;level a 61 1");
        for (int i = 0; i < 10; i++) {
            t.append(";event 3 a ").append(i % 2).append(' ').append(10 * i);
        }
        OrderSplit x = one(5, 1, 1, 1, t.toString());
        x.begin();
        x.ticks(2);
        Checks.is("EVENTS to come", x.now(7), 10);
        x.ticks(1);
        Checks.is("EVENTS to come", x.now(7), 0);
        Checks.is("level(0, 0, 1)", x.level(0, 0, 1), 80);
        Checks.is("level(0, 1, 1)", x.level(0, 1, 1), 90);
        Checks.is("about(4) stays", x.about(4), 10);
    }

    /** In one TICK first the EVENT, then what a PART buys, then the next ROUND. */
    private static void eventsAheadOfPurchases() {
        OrderSplit x = one(5, 1, 1, 1, ";level a 10 5;event 1 a 0 0;event 2 a 0 2;event 3 a 0 1");
        x.begin();
        Checks.is("the EVENT took all", x.ticks(1), 0);
        Checks.is("the EVENT brought two", x.ticks(1), 2);
        parts(x, 0, 3, 5, 2, 50, 10, 3, -2);
        Checks.is("the answer comes with the next EVENT", x.ticks(1), 0);
        now(x, 3, 3, 2, 20, 0, 2, 0, 0);
        parts(x, 0, 1, 1, 0, 10, 10, 4, -2);
        // SIZE is what is told, not more by it
        OrderSplit y = one(5, 1, 1, 1, ";level a 10 9;event 2 a 0 9");
        y.begin();
        y.ticks(1);
        Checks.is("5 of 9 are bought", y.level(0, 0, 1), 4);
        y.ticks(1);
        Checks.is("9 again", y.level(0, 0, 1), 9);
    }

    // ---- what a PART buys

    /** As many whole LOTS as there are: of just a LOT, of a unit less, of nearly two. */
    private static void purchasesByLots() {
        for (int lot : new int[] {1, 2, 7, 20}) {
            for (int there = 0; there <= 3 * lot; there++) {
                OrderSplit x = one(3 * lot, 1, lot, 1, ";level a 10 99");
                x.begin();
                x.resize(0, 0, there);
                Checks.is("of " + there + " in LOTS of " + lot, x.ticks(1), there - there % lot);
                Checks.is("left", x.level(0, 0, 1), there % lot);
                Checks.is("SPENT", x.now(3), 10 * (there - there % lot));
            }
        }
        // a LOT of several LEVELS
        OrderSplit x = one(4, 1, 4, 1, ";level a 10 1;level a 11 1;level a 12 1;level a 13 1");
        x.begin();
        Checks.is("a unit of each", x.ticks(1), 4);
        Checks.is("SPENT", x.now(3), 46);
        Checks.is("entries()", x.entries(), 4);
        OrderSplit y = one(4, 1, 4, 1, ";level a 10 1;level a 11 1;level a 12 1;level a 13 1");
        y.begin();
        y.resize(0, 3, 0);
        Checks.is("a unit less than a LOT", y.ticks(1), 0);
        Checks.is("level(0, 0, 1)", y.level(0, 0, 1), 1);
    }

    /** LEVELS up to its CAP: its own, not the next one; within a LEVEL CAP is that LEVEL's. */
    private static void purchasesByCap() {
        OrderSplit x = one(5, 3, 1, 1, ";level a 10 5;level a 11 5");
        x.begin();
        Checks.is("CAP, all of one LEVEL", x.part(0, 4), 10);
        x.resize(0, 0, 4);
        Checks.is("no dearer one", x.ticks(1), 4);
        OrderSplit y = one(6, 3, 1, 1, ";level a 10 5;level a 11 5;level a 12 5");
        y.begin();
        Checks.is("CAP, a unit of the next", y.part(0, 4), 11);
        Checks.is("HOPE", y.part(0, 3), 61);
        y.resize(0, 0, 0);
        Checks.is("all of the next", y.ticks(1), 5);
        Checks.is("none of the one behind", y.ticks(1), 0);
        y.resize(0, 0, 1);
        Checks.is("a cheaper one again", y.ticks(1), 1);
        Checks.is("SPENT", y.now(3), 65);
        // LEVELS without units aren't needed
        OrderSplit z = one(5, 3, 1, 1, ";level a 10 5;level a 11 5");
        z.resize(0, 0, 0);
        z.begin();
        Checks.is("CAP", z.part(0, 4), 11);
        OrderSplit limit = one(9, 3, 1, 1, ";level a 50 5;level a 51 5");
        limit.begin();
        Checks.is("CAP is LIMIT at most", limit.part(0, 4), 50);
        Checks.is("units", limit.part(0, 1), 5);
    }

    private static void purchasesOfPartsLeft() {
        OrderSplit x = one(7, 20, 1, 1, ";level a 10 7");
        x.begin();
        x.resize(0, 0, 6);
        Checks.is("all but one", x.ticks(1), 6);
        Checks.is("it RESTS", x.part(0, 0), 2);
        x.resize(0, 0, 9);
        Checks.is("that one alone", x.ticks(1), 1);
        Checks.is("left", x.level(0, 0, 1), 8);
        Checks.is("it has ended", x.part(0, 0), 3);
        Checks.is("its answer comes", x.part(0, 5), 3);
    }

    // ---- ROUNDS

    /** a's answer comes at 2, b's at 18: the next ROUND begins then, in that TICK. */
    private static void roundsBeginWithTheLastAnswer() {
        OrderSplit x = Checks.made("order 10 limit 50 life 20;venue a plain lot 1" + FREE + " delay 1;venue b plain lot 1" + FREE
            + " delay 9;level a 10 4;level b 10 4;event 1 a 0 9");
        Checks.is("begin()", x.begin(), 2);
        Checks.is("ticks(1)", x.ticks(1), 4);
        Checks.is("ticks(16)", x.ticks(16), 4);
        now(x, 17, 6, 8, 80, 0, 1, 0, 0);
        Checks.is("part(0, 0)", x.part(0, 0), 0);
        Checks.is("part(1, 0)", x.part(1, 0), 3);
        x.ticks(1);
        now(x, 18, 2, 8, 80, 0, 2, 0, 0);
        parts(x, 0, 1, 2, 0, 20, 10, 19, -2);
        parts(x, 1, 0, 0, 0, 0, 0, -2, -2);
        x.ticks(2);
        now(x, 20, 0, 10, 100, 0, 2, 1, 0);
        x.ticks(200);
        now(x, 220, 0, 10, 100, 0, 2, 1, 0);
    }

    /** REST is less as an answer comes back, not as units are bought. */
    private static void restByAnswers() {
        OrderSplit x = one(5, 1, 1, 9, ";level a 10 5");
        x.begin();
        x.ticks(9);
        now(x, 9, 5, 5, 50);
        x.ticks(8);
        now(x, 17, 5, 5, 50);
        x.ticks(1);
        now(x, 18, 0, 5, 50);
        // an answer of nothing bought changes nothing
        OrderSplit y = one(5, 1, 1, 1, ";level a 10 5");
        y.begin();
        y.resize(0, 0, 0);
        y.ticks(3);
        now(y, 3, 5, 0, 0, 0, 1, 1, 0);
    }

    /** All of the PLAN can be had of DEPTHS, and is no more than ORDER: by just a unit. */
    private static void firstRoundByPlan() {
        for (int size = 3; size <= 5; size++) {
            for (int order = 5; order <= 7; order++) {
                OrderSplit x = Checks.made("order 9 limit 50 life 1;venue a plain lot 1" + FREE + " delay 1;venue b plain lot 2" + FREE
                    + " delay 1;level a 10 9;level b 20 9");
                x.plan(0, 2);
                x.plan(1, 4);
                x.resize(1, 0, size);
                x.order(order);
                boolean fits = size >= 4 && order >= 6;
                Checks.is("begin() of SIZE " + size + " and ORDER " + order, x.begin(), fits ? 2 : 1);
                Checks.is("part(0, 1)", x.part(0, 1), fits ? 2 : order);
                Checks.is("part(1, 1)", x.part(1, 1), fits ? 4 : 0);
                Checks.is("REST", x.now(1), order);
                x.ticks(2);
                Checks.is("REST then", x.now(1), fits ? order - 6 : 0);
                Checks.is("ROUNDS", x.now(5), fits && order > 6 ? 2 : 1);
            }
        }
    }

    /** A PLAN that has no units is none. */
    private static void planOfAllOrNothing() {
        OrderSplit x = one(5, 1, 1, 1, ";level a 10 5");
        x.plan(0, 5);
        x.plan(0, 0);
        x.begin();
        Checks.is("THE BEST of ORDER", x.part(0, 1), 5);
        OrderSplit y = one(5, 1, 1, 1, ";level a 10 5");
        y.plan(0, 1);
        y.begin();
        Checks.is("one unit of the PLAN", y.part(0, 1), 1);
        y.ticks(2);
        Checks.is("the rest in the next ROUND", y.part(0, 1), 4);
    }

    /** Where begin() can send nothing, the first ROUND is that which begins later. */
    private static void planThatBecomesFit() {
        String text = "order 6 limit 20 life 2;venue a plain lot 2" + FREE + " delay 1;level a 10 6;event 3 a 0 ";
        for (int size : new int[] {1, 2, 3, 4, 6}) {
            OrderSplit x = Checks.made(text + size);
            x.plan(0, 4);
            x.resize(0, 0, 1);
            Checks.is("begin()", x.begin(), 0);
            Checks.is("ROUNDS", x.now(5), 0);
            x.ticks(3);
            int sent = size >= 4 ? 4 : size - size % 2;
            Checks.is("sent of " + size, x.part(0, 1), sent);
            Checks.is("ROUNDS", x.now(5), sent > 0 ? 1 : 0);
            Checks.is("OVER", x.now(6), sent > 0 ? 0 : 1);
        }
    }

    // ---- OVER

    private static void overByRest() {
        OrderSplit x = one(5, 1, 1, 1, ";level a 10 9;event 100 a 0 0");
        x.begin();
        Checks.is("under way", x.now(6), 0);
        x.ticks(1);
        Checks.is("all bought, but not told of", x.now(6), 0);
        x.ticks(1);
        now(x, 2, 0, 5, 50, 0, 1, 1, 1);
        Checks.is("will(0)", x.will(0), 2);
    }

    /** REST isn't 0 and nothing can be had: OVER as the last EVENT has come, not ahead of it. */
    private static void overByEvents() {
        OrderSplit x = one(9, 1, 1, 1, ";level a 10 5;event 4 a 0 0;event 6 a 0 0");
        x.begin();
        for (int t = 1; t <= 7; t++) {
            x.ticks(1);
            Checks.is("OVER at " + t, x.now(6), t >= 6 ? 1 : 0);
        }
        now(x, 7, 4, 5, 50, 0, 1, 1, 0);
        // EVENTS to come, but a PART is under way; then none to come, and still one
        OrderSplit y = one(9, 1, 1, 9, ";level a 10 5;event 3 a 0 0");
        y.begin();
        y.ticks(3);
        now(y, 3, 9, 0, 0, 0, 1, 0, 0);
        y.ticks(7);
        now(y, 10, 9, 0, 0, 0, 1, 0, 0);
        y.ticks(8);
        now(y, 18, 9, 0, 0, 0, 1, 0, 0);
        y.ticks(1);
        now(y, 19, 9, 0, 0, 0, 1, 1, 0);
    }

    /** REST of less than any LOT, or DEPTHS of less. */
    private static void overByLots() {
        OrderSplit x = one(7, 1, 4, 1, ";level a 10 99");
        x.begin();
        Checks.is("units", x.part(0, 1), 4);
        x.ticks(2);
        now(x, 2, 3, 4, 40, 0, 1, 1, 0);
        OrderSplit y = one(8, 1, 4, 1, ";level a 10 7");
        y.begin();
        y.ticks(2);
        now(y, 2, 4, 4, 40, 0, 1, 1, 0);
        y.resize(0, 0, 4);
        Checks.is("a LOT again: not OVER", y.now(6), 0);
        y.resize(0, 0, 3);
        Checks.is("a unit less: OVER", y.now(6), 1);
        // two VENUES: REST is enough for the one that has nothing, too little for the other
        OrderSplit z = Checks.made("order 5 limit 50 life 1;venue a plain lot 2" + FREE + " delay 1;venue b plain lot 4" + FREE
            + " delay 1;level a 10 2;level b 10 9");
        z.begin();
        Checks.is("4 at b", z.part(1, 1), 4);
        z.ticks(2);
        now(z, 2, 1, 4, 40, 0, 1, 1, 0);
    }

    private static void ticksToTheirEnds() {
        OrderSplit x = one(5, 1, 1, 1, ";level a 10 5");
        x.begin();
        Checks.refused(x, "ticks(0)", x.ticks(0), -1, 2);
        Checks.refused(x, "ticks(201)", x.ticks(201), -1, 2);
        Checks.is("TIME", x.now(0), 0);
        Checks.is("ticks(1)", x.ticks(1), 5);
        Checks.is("TIME", x.now(0), 1);
        Checks.is("ticks(200)", x.ticks(200), 0);
        Checks.is("TIME", x.now(0), 201);
        Checks.is("ticks(200) when it is OVER", x.ticks(200), 0);
        Checks.is("TIME goes on", x.now(0), 401);
        Checks.is("trouble()", x.trouble(), 0);
        OrderSplit y = one(5, 1, 1, 9, ";level a 10 5");
        y.begin();
        Checks.is("ticks(200), all in one", y.ticks(200), 5);
        now(y, 200, 0, 5, 50, 0, 1, 1, 0);
    }

    // ---- SPENT, SLIP, THE LEDGER

    /** PRICES as it buys, the CHARGE of all that it bought as it ends. */
    private static void chargeAsItEnds() {
        OrderSplit x = Checks.made("order 30 limit 50 life 2;venue a tiers lot 1 fee 5 least 120 delay 1;level a 10 30");
        x.begin();
        x.resize(0, 0, 19);
        x.ticks(1);
        Checks.is("SPENT, no CHARGE yet", x.now(3), 190);
        x.resize(0, 0, 4);
        x.ticks(1);
        Checks.is("SPENT, no CHARGE yet", x.now(3), 230);
        Checks.is("SLIP, not yet", x.now(4), 0);
        x.ticks(1);
        Checks.is("SPENT with the CHARGE of 23, its LEAST", x.now(3), 230 + 120);
        Checks.is("SLIP", x.now(4), 350 - (300 + 120) * 23 / 30);
        // one of no units: nothing, though there is a LEAST
        OrderSplit y = Checks.made("order 30 limit 50 life 2;venue a flat lot 1 fee 5 least 300 delay 1;level a 10 30");
        y.begin();
        y.resize(0, 0, 0);
        y.ticks(3);
        Checks.is("it has ended", y.part(0, 0), 3);
        Checks.is("SPENT", y.now(3), 0);
        Checks.is("SLIP", y.now(4), 0);
        Checks.is("entries()", y.entries(), 0);
    }

    /** HOPE times n by m, the lower WHOLE of it, below 0, too. */
    private static void slipByLowerWholes() {
        // by FEE and m HOPE; of SIZES at 1 and at 2 what is SPENT on n, and its SLIP
        int[][] want = {
            {0, 3, 5, 1, 0, 1, 0}, {0, 3, 5, 1, 1, 3, 0}, {0, 3, 5, 1, 2, 5, 0}, {0, 3, 5, 0, 1, 2, 1}, {0, 3, 5, 0, 2, 4, 1},
            {0, 3, 5, 3, 0, 3, -2}, {0, 3, 5, 0, 0, 0, 0}, {0, 2, 3, 1, 0, 1, 0}, {0, 2, 3, 0, 1, 2, 1}, {0, 1, 1, 1, 0, 1, 0},
            {-2, 3, -1, 1, 0, -1, 0}, {-2, 3, -1, 1, 1, -1, 0}, {-2, 3, -1, 1, 2, -1, 0}, {-2, 3, -1, 0, 1, 0, 1},
            {-2, 3, -1, 0, 2, 0, 1}, {-2, 3, -1, 0, 3, 0, 1}, {-2, 3, -1, 2, 0, -2, -1}, {-2, 3, -1, 0, 0, 0, 0},
            {-2, 2, -1, 1, 0, -1, 0}, {-2, 4, -1, 0, 1, 0, 1}, {-2, 4, -1, 0, 4, 0, 1}, {-1, 1, 0, 1, 0, 0, 0}};
        for (int[] w : want) {
            OrderSplit x = Checks.made("order " + w[1] + " limit 2 life 1;venue a plain lot 1 fee 0 least 0 delay 1;level a 1 1;level a 2 9");
            x.fee(0, w[0]);
            x.begin();
            Checks.is("HOPE of " + w[1], x.part(0, 3), w[2]);
            x.resize(0, 0, w[3]);
            x.resize(0, 1, w[4]);
            Checks.is("n", x.ticks(1), Math.min(w[1], w[3] + w[4]));
            x.ticks(1);
            Checks.is("SPENT of " + w[3] + " and " + w[4] + " for " + w[1] + " by FEE " + w[0], x.now(3), w[5]);
            Checks.is("SLIP of " + w[3] + " and " + w[4] + " for " + w[1] + " by FEE " + w[0], x.now(4), w[6]);
        }
    }

    /** The least PART that there is; a cheaper unit came to be ahead of it. */
    private static void slipOfOneUnit() {
        OrderSplit x = Checks.made("order 1 limit 9 life 1;venue a flat lot 1 fee 0 least 4 delay 1;level a 1 1;level a 3 1");
        x.resize(0, 0, 0);
        x.begin();
        Checks.is("HOPE", x.part(0, 3), 7);
        x.resize(0, 0, 1);
        Checks.is("ticks(1)", x.ticks(1), 1);
        Checks.is("SPENT", x.now(3), 5);
        Checks.is("SLIP", x.now(4), -2);
    }

    /** ENTRIES in the order in which each came first, by VENUE and PRICE; more of one is no new one. */
    private static void ledgerInItsOrder() {
        OrderSplit x = Checks.made("order 8 limit 50 life 9;venue a plain lot 1" + FREE + " delay 2;venue b plain lot 1" + FREE
            + " delay 1;level a 10 2;level a 11 2;level b 10 2;level b 11 2");
        x.begin();
        x.resize(1, 0, 0);
        x.ticks(1);
        Checks.is("entries()", x.entries(), 1);
        entry(x, 0, 1, 11, 2);
        x.resize(1, 0, 1);
        x.resize(0, 1, 1);
        x.ticks(1);
        Checks.is("entries()", x.entries(), 4);
        entry(x, 1, 0, 10, 2);
        entry(x, 2, 0, 11, 1);
        entry(x, 3, 1, 10, 1);
        x.resize(0, 0, 1);
        x.resize(1, 1, 1);
        x.ticks(1);
        Checks.is("entries()", x.entries(), 4);
        entry(x, 0, 1, 11, 3);
        entry(x, 1, 0, 10, 3);
        entry(x, 2, 0, 11, 1);
        entry(x, 3, 1, 10, 1);
        Checks.refused(x, "entry(4, 0)", x.entry(4, 0), -1, 1);
        Checks.refused(x, "entry(-1, 0)", x.entry(-1, 0), -1, 1);
        for (int price : new int[] {0, -1, 9, 12, 1000, Integer.MIN_VALUE, Integer.MAX_VALUE}) {
            Checks.is("bought(0, " + price + ")", x.bought(0, price), 0);
            Checks.is("trouble()", x.trouble(), 0);
        }
    }

    /** 30 LEVELS, so 30 ENTRIES: no PRICE that isn't among them is found. */
    private static void ledgerThatIsFull() {
        StringBuilder t = new StringBuilder("order 30 limit 30 life 1");
        for (char c = 'a'; c < 'f'; c++) {
            t.append(";venue ").append(c).append(" plain lot 1").append(FREE).append(" delay 1");
        }
        for (int i = 0; i < 30; i++) {
            t.append(";level ").append((char) ('a' + i % 5)).append(' ').append(i / 5 + 1).append(" 1");
        }
        OrderSplit x = Checks.made(t.toString());
        x.begin();
        Checks.is("ticks(1)", x.ticks(1), 30);
        Checks.is("entries()", x.entries(), 30);
        for (int v = 0; v < 5; v++) {
            for (int price = 0; price <= 7; price++) {
                Checks.is("bought(" + v + ", " + price + ")", x.bought(v, price), price >= 1 && price <= 6 ? 1 : 0);
            }
        }
        entry(x, 29, 4, 6, 1);
        Checks.refused(x, "entry(30, 0)", x.entry(30, 0), -1, 1);
        // all of them once more
        for (int i = 0; i < 30; i++) {
            x.resize(i % 5, i / 5, 1);
        }
        x.ticks(3);
        Checks.is("entries(), for REST is 0", x.entries(), 30);
        Checks.is("entry(29, 2)", x.entry(29, 2), 1);
    }

    /** What was bought since then was never bought. */
    private static void ledgerThatWasGoneBack() {
        OrderSplit x = one(4, 1, 1, 1, ";level a 10 2;level a 11 2");
        x.begin();
        x.keep();
        x.ticks(2);
        Checks.is("entries()", x.entries(), 2);
        x.back();
        Checks.is("entries() as kept", x.entries(), 0);
        Checks.is("bought(0, 10) as kept", x.bought(0, 10), 0);
        Checks.is("bought(0, 11) as kept", x.bought(0, 11), 0);
        Checks.refused(x, "entry(0, 0) as kept", x.entry(0, 0), -1, 1);
        x.resize(0, 0, 0);
        Checks.is("ticks(1), another way", x.ticks(1), 2);
        Checks.is("entries()", x.entries(), 1);
        entry(x, 0, 0, 11, 2);
        Checks.is("bought(0, 10)", x.bought(0, 10), 0);
    }

    private static void entry(OrderSplit x, int i, int venue, int price, int units) {
        Checks.is("entry(" + i + ", 0)", x.entry(i, 0), venue);
        Checks.is("entry(" + i + ", 1)", x.entry(i, 1), price);
        Checks.is("entry(" + i + ", 2)", x.entry(i, 2), units);
        Checks.is("bought(" + venue + ", " + price + ")", x.bought(venue, price), units);
    }

    // ---- what will come

    private static final String LONG = "order 90 limit 50 life 20;venue a plain lot 1" + FREE + " delay 9;venue b flat lot 7 fee 3 least 9 delay 4"
        + ";level a 10 5;level b 12 30;event 7 a 0 0;event 30 a 0 3;event 90 b 0 20;event 200 a 0 50";

    /** At each TIME the same, and just what TICKS bring. */
    private static void willIsWhatComes() {
        OrderSplit x = Checks.made(LONG);
        x.begin();
        int[] will = new int[7];
        for (int what = 0; what < 7; what++) {
            will[what] = x.will(what);
        }
        Checks.is("it will be OVER", will[6], 1);
        Checks.is("behind the last EVENT", will[0] > 200, true);
        int ticks = 0;
        while (x.now(6) == 0 && ticks < 400) {
            x.ticks(1);
            ticks++;
            if (ticks % 60 == 0) {
                Checks.is("will(3) at " + ticks, x.will(3), will[3]);
            }
        }
        for (int what = 0; what < 7; what++) {
            OrderSplit y = Checks.made(LONG);
            y.begin();
            y.ticks(200);
            y.ticks(will[0] - 200);
            Checks.is("now(" + what + ") then", y.now(what), will[what]);
            Checks.is("will(" + what + ") when it is OVER", y.will(what), will[what]);
        }
        Checks.is("OVER at the TIME foretold", ticks, will[0]);
    }

    private static void willChangesNothing() {
        OrderSplit x = Checks.made(LONG);
        x.plan(0, 5);
        x.begin();
        x.ticks(3);
        x.call(0);
        OrderSplit twin = Checks.made(LONG);
        twin.plan(0, 5);
        twin.begin();
        twin.ticks(3);
        twin.call(0);
        for (int what = -1; what < 8; what++) {
            x.will(what);
        }
        Checks.is("all is as it was", Told.of(x).equals(Told.of(twin)), true);
    }

    // ---- resize, keep and back in the run

    private static void resizeInTheRun() {
        OrderSplit x = one(9, 2, 1, 1, ";level a 10 9");
        x.begin();
        Checks.is("resize(0, 0, 0)", x.resize(0, 0, 0), 9);
        Checks.is("resize(0, 0, 99)", x.resize(0, 0, 99), 0);
        Checks.refused(x, "resize(0, 0, 100)", x.resize(0, 0, 100), -1, 2);
        Checks.is("it buys its units", x.ticks(1), 9);
        Checks.is("resize(0, 0, 5) of what is left", x.resize(0, 0, 5), 90);
        parts(x, 0, 3, 9, 9, 90, 10, 2, -2);
        // nothing is sent till the next TICK
        OrderSplit y = one(9, 2, 1, 1, ";level a 10 9");
        y.resize(0, 0, 0);
        Checks.is("begin()", y.begin(), 0);
        y.ticks(1);
        y.resize(0, 0, 1);
        now(y, 1, 9, 0, 0, 0, 0, 0, 0);
        y.ticks(1);
        now(y, 2, 9, 0, 0, 0, 1, 0, 0);
        parts(y, 0, 1, 1, 0, 10, 10, 3, -2);
    }

    /** Ahead of the run, and with a PART on its way, called, RESTING, answering, and none. */
    private static void keptInEachState() {
        for (int time = -1; time <= 8; time++) {
            OrderSplit x = keptAt(time);
            x.order(1);
            x.plan(0, 0);
            x.fee(0, 9);
            x.resize(0, 0, 99);
            x.begin();
            x.call(0);
            x.ticks(9);
            Checks.is("back() to " + time, x.back(), true);
            Checks.is("all is as it was kept at " + time, Told.of(x).equals(Told.of(keptAt(time))), true);
        }
    }

    private static OrderSplit keptAt(int time) {
        OrderSplit x = one(9, 2, 1, 2, ";level a 10 9;event 5 a 0 3");
        x.plan(0, 7);
        x.resize(0, 0, 8);
        if (time >= 0) {
            x.begin();
            x.resize(0, 0, 5);
        }
        if (time > 0) {
            x.ticks(time);
        }
        if (time == 3) {
            x.call(0);
        }
        x.keep();
        return x;
    }

    /** A new SPLIT has none of them, on their way or not. */
    private static void callsOfTheSplitBefore() {
        String text = "order 9 limit 50 life 2;venue a plain lot 1" + FREE + " delay 9;level a 10 9";
        OrderSplit x = Checks.made(text);
        x.begin();
        Checks.is("call(0)", x.call(0), 9);
        Checks.load(x, text);
        Checks.refused(x, "part(0, 6), not BEGUN", x.part(0, 6), Checks.MIN, 5);
        Checks.is("begin()", x.begin(), 1);
        Checks.is("part(0, 6)", x.part(0, 6), -2);
        x.ticks(3);
        Checks.is("call(0) anew", x.call(0), 12);
        // nor has what was kept ahead of a CALL
        Checks.load(x, text);
        x.begin();
        x.keep();
        x.call(0);
        x.back();
        Checks.is("part(0, 6) as kept", x.part(0, 6), -2);
        Checks.is("call(0) once more", x.call(0), 9);
    }
}

/** Promises 21 to 23 and 30 to 33: the plan, and the acts ahead of the run. */
public final class PlanTest {
    private static final String FREE = " fee 0 least 0 delay 1";
    private static final String TEXT = "order 40 limit 9 life 1;venue a plain lot 4" + FREE + ";venue b plain lot 6" + FREE
        + ";level a 5 24;level a 10 9;level b 3 12;level b 4 9";

    public static void main(String[] args) {
        plan();
        planned();
        planAsThingsChange();
        move();
        severalMoves();
        adopt();
        fee();
        resize();
        order();
        Checks.end("PlanTest");
    }

    /** Promise 21. */
    private static void plan() {
        OrderSplit x = Checks.made(TEXT);
        Checks.is("plan(0, 24)", x.plan(0, 24), 0);
        Checks.is("plan(0, 8)", x.plan(0, 8), 24);
        Checks.is("plan(0, 24)", x.plan(0, 24), 8);
        Checks.is("plan(1, 12)", x.plan(1, 12), 0);
        Checks.refused(x, "more than ORDER", x.plan(1, 18), -1, 2);
        Checks.refused(x, "no whole LOTS", x.plan(0, 6), -1, 2);
        Checks.refused(x, "more than DEPTH", x.plan(0, 28), -1, 2);
        Checks.refused(x, "below 0", x.plan(0, -4), -1, 2);
        Checks.refused(x, "no such VENUE", x.plan(2, 7), -1, 1);
        Checks.refused(x, "no such VENUE", x.plan(-1, 0), -1, 1);
        Checks.is("what was refused isn't planned", x.planned(0), 36);
        Checks.is("plan(0, 0)", x.plan(0, 0), 24);
        Checks.is("trouble()", x.trouble(), 0);
        x.begin();
        Checks.refused(x, "BEGUN", x.plan(0, 4), -1, 5);
        Checks.refused(x, "a number ahead of BEGUN", x.plan(0, 5), -1, 2);
        Checks.refused(x, "a VENUE ahead of BEGUN", x.plan(2, 0), -1, 1);
    }

    /** Promise 22. */
    private static void planned() {
        OrderSplit x = Checks.made(TEXT);
        for (int what = 0; what < 3; what++) {
            Checks.is("planned(" + what + ") of no PLAN", x.planned(what), 0);
        }
        x.plan(0, 24);
        Checks.is("planned(0)", x.planned(0), 24);
        Checks.is("planned(1)", x.planned(1), 120);
        Checks.is("planned(2)", x.planned(2), 120 - 60 - 36);
        Checks.is("trouble()", x.trouble(), 0);
        Checks.refused(x, "planned(3)", x.planned(3), Checks.MIN, 1);
        Checks.refused(x, "planned(-1)", x.planned(-1), Checks.MIN, 1);
    }

    private static void planAsThingsChange() {
        OrderSplit x = Checks.made(TEXT);
        x.plan(0, 24);
        x.plan(1, 12);
        x.order(36);
        Checks.is("just ORDER", x.planned(0), 36);
        x.order(35);
        Checks.refused(x, "planned(0), more than ORDER", x.planned(0), Checks.MIN, 5);
        Checks.refused(x, "move(), more than ORDER", x.move(), -1, 5);
        Checks.refused(x, "a what ahead of that", x.planned(3), Checks.MIN, 1);
        Checks.refused(x, "plan(0, 24) again", x.plan(0, 24), -1, 2);
        Checks.is("plan(0, 20)", x.plan(0, 20), 24);
        Checks.is("it can be had", x.planned(0), 32);
        x.resize(0, 0, 19);
        Checks.refused(x, "planned(1), more than DEPTH", x.planned(1), Checks.MIN, 5);
        Checks.refused(x, "move(), more than DEPTH", x.move(), -1, 5);
        x.resize(0, 0, 20);
        Checks.is("planned(1)", x.planned(1), 100 + 36);
        x.begin();
        Checks.is("it is told when BEGUN, too", x.planned(1), 100 + 36);
        x.ticks(1);
        Checks.refused(x, "planned(1), all being bought", x.planned(1), Checks.MIN, 5);
    }

    /** Promise 23. */
    private static void move() {
        OrderSplit x = Checks.made(TEXT);
        Checks.is("move() in no PLAN", x.move(), -2);
        x.plan(0, 24);
        Checks.is("12 from a to b", x.move(), 1);
        x.plan(0, 12);
        x.plan(1, 12);
        Checks.is("no room for 12 more at b", x.move(), -2);
        x.resize(1, 1, 12);
        Checks.is("room for 12 more at b", x.move(), 1);
        x.plan(0, 8);
        Checks.is("a hasn't 12", x.move(), -2);
        x.plan(0, 0);
        x.fee(0, -3);
        Checks.is("12 from b to a", x.move(), 10);
        Checks.is("trouble()", x.trouble(), 0);
        x.fee(0, -2);
        Checks.is("no cheaper", x.move(), -2);
    }

    private static void severalMoves() {
        OrderSplit prime = Checks.made("order 9 limit 9 life 1;venue a plain lot 2" + FREE + ";venue b plain lot 3" + FREE
            + ";level a 5 9;level b 3 6");
        prime.plan(0, 4);
        Checks.is("a hasn't 6", prime.move(), -2);
        prime.plan(0, 6);
        Checks.is("6 from a to b", prime.move(), 1);
        OrderSplit x = Checks.made("order 9 limit 9 life 1;venue a plain lot 1" + FREE + ";venue b plain lot 1" + FREE
            + ";venue c plain lot 1" + FREE + ";level a 5 9;level b 3 9;level c 3 9");
        x.plan(0, 2);
        Checks.is("of several the least", x.move(), 1);
        x.fee(2, -1);
        Checks.is("the cheapest", x.move(), 2);
        x.plan(1, 2);
        x.fee(1, 9);
        Checks.is("from another one", x.move(), 12);
        // a move of 2 beats a cheaper place for 1
        OrderSplit y = Checks.made("order 9 limit 9 life 1;venue a plain lot 1" + FREE + ";venue b plain lot 1" + FREE
            + ";venue c plain lot 2" + FREE + ";level a 5 9;level b 3 9;level c 4 9");
        y.plan(0, 4);
        Checks.is("what makes all cheapest: alike, so the least", y.move(), 1);
        y.fee(1, 1);
        Checks.is("what makes all cheapest", y.move(), 2);
    }

    /** Promise 30. */
    private static void adopt() {
        OrderSplit x = Checks.made(TEXT);
        x.plan(0, 4);
        Checks.is("adopt(23)", x.adopt(23), 22);
        Checks.is("planned(0)", x.planned(0), 22);
        Checks.is("planned(1)", x.planned(1), x.best(23));
        Checks.is("planned(2)", x.planned(2), 0);
        Checks.is("move()", x.move(), -2);
        Checks.is("plan(0, 0)", x.plan(0, 0), 4);
        Checks.is("plan(1, 0)", x.plan(1, 0), 18);
        Checks.is("adopt(40)", x.adopt(40), 38);
        Checks.refused(x, "adopt(0)", x.adopt(0), -1, 2);
        Checks.refused(x, "adopt(41)", x.adopt(41), -1, 2);
        x.order(120);
        Checks.is("adopt(120)", x.adopt(120), 42);
        Checks.is("adopt(1)", x.adopt(1), 0);
        Checks.is("planned(0)", x.planned(0), 0);
        x.begin();
        Checks.refused(x, "BEGUN", x.adopt(4), -1, 5);
        Checks.refused(x, "a number ahead of BEGUN", x.adopt(121), -1, 2);
    }

    /** Promise 31. */
    private static void fee() {
        OrderSplit x = Checks.made(TEXT);
        Checks.is("fee(0, -9)", x.fee(0, -9), 0);
        Checks.is("fee(0, 9)", x.fee(0, 9), -9);
        Checks.is("venue(0, 2)", x.venue(0, 2), 9);
        Checks.is("venue(1, 2)", x.venue(1, 2), 0);
        Checks.is("cost(0, 4)", x.cost(0, 4), 20 + 36);
        Checks.refused(x, "fee(0, 10)", x.fee(0, 10), Checks.MIN, 2);
        Checks.refused(x, "fee(0, -10)", x.fee(0, -10), Checks.MIN, 2);
        Checks.refused(x, "fee(2, 10)", x.fee(2, 10), Checks.MIN, 1);
        x.begin();
        Checks.refused(x, "BEGUN", x.fee(0, 1), Checks.MIN, 5);
        Checks.refused(x, "a number ahead of BEGUN", x.fee(0, 11), Checks.MIN, 2);
        Checks.is("it stays", x.venue(0, 2), 9);
    }

    /** Promise 32. */
    private static void resize() {
        OrderSplit x = Checks.made(TEXT);
        Checks.is("resize(1, 1, 99)", x.resize(1, 1, 99), 9);
        Checks.is("resize(1, 1, 0)", x.resize(1, 1, 0), 99);
        Checks.is("level(1, 1, 1)", x.level(1, 1, 1), 0);
        Checks.is("venue(1, 6)", x.venue(1, 6), 12);
        Checks.refused(x, "resize(1, 1, 100)", x.resize(1, 1, 100), -1, 2);
        Checks.refused(x, "resize(1, 1, -1)", x.resize(1, 1, -1), -1, 2);
        Checks.refused(x, "resize(1, 2, 100)", x.resize(1, 2, 100), -1, 1);
        Checks.refused(x, "resize(2, 0, 1)", x.resize(2, 0, 1), -1, 1);
        Checks.refused(x, "resize(0, -1, 1)", x.resize(0, -1, 1), -1, 1);
        x.begin();
        Checks.is("BEGUN", x.resize(1, 1, 7), 0);
        Checks.is("trouble()", x.trouble(), 0);
    }

    /** Promise 33. */
    private static void order() {
        OrderSplit x = Checks.made(TEXT);
        Checks.is("order(120)", x.order(120), 40);
        Checks.is("order(1)", x.order(1), 120);
        Checks.refused(x, "order(0)", x.order(0), -1, 2);
        Checks.refused(x, "order(121)", x.order(121), -1, 2);
        Checks.is("about(0)", x.about(0), 1);
        x.begin();
        Checks.is("now(1)", x.now(1), 1);
        Checks.refused(x, "BEGUN", x.order(5), -1, 5);
        Checks.refused(x, "a number ahead of BEGUN", x.order(0), -1, 2);
    }
}

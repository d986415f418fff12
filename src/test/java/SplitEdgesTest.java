/**
 * Terms II and promises 7 to 23 and 39, at their edges: LIMIT, DEPTH, whole LOTS, CHARGES at their
 * LEAST and beyond the first 20, splits that have fewer units than q, a PLAN and its MOVES.
 */
public final class SplitEdgesTest {
    private static final String FREE = " fee 0 least 0 delay 1";

    public static void main(String[] args) {
        depthByLimit();
        under();
        costsUnitByUnit();
        costsOfNothing();
        leastOfPlain();
        leastOfTiers();
        noLeastBelowZero();
        flat();
        beyondTheFirstTwenty();
        halvesOfFees();
        dryByOneUnit();
        fewerThanALot();
        fewerThanAsked();
        mostUnitsAheadOfCost();
        likeOnes();
        afterSizesBecameLess();
        boundByUnits();
        boundOfKinds();
        gapOfFewerUnits();
        greedyByFractions();
        greedyToTheEnd();
        worth();
        fewest();
        planToItsEdges();
        planOfWholeLots();
        moveByMultiples();
        moveIntoDepth();
        moveThatIsCheaper();
        adoptToOrder();
        Checks.end("SplitEdgesTest");
    }

    private static OrderSplit one(String venue, String levels) {
        return Checks.made("order 120 limit 500 life 1;venue a " + venue + " delay 1" + levels);
    }

    // ---- DEPTH and COST

    /** A LEVEL of LIMIT counts, one of LIMIT and 1 doesn't. */
    private static void depthByLimit() {
        String levels = ";level a 499 1;level a 500 2;level a 501 4";
        int[][] want = {{498, 0}, {499, 1}, {500, 3}, {501, 7}, {502, 7}, {1, 0}, {999, 7}};
        for (int[] w : want) {
            OrderSplit x = Checks.made("order 120 limit " + w[0] + " life 1;venue a plain lot 1" + FREE + levels);
            Checks.is("DEPTH by LIMIT " + w[0], x.venue(0, 6), w[1]);
            Checks.is("units(120)", x.units(120), w[1]);
            Checks.is("LEVELS", x.venue(0, 5), 3);
            Checks.is("bound(120)", x.bound(120), x.best(120));
            Checks.refused(x, "cost of one more", x.cost(0, w[1] + 1), Checks.MIN, 2);
            Checks.is("cost of all", x.cost(0, w[1]), new int[] {0, 499, 0, 1499, 0, 0, 0, 3503}[w[1]]);
        }
        // six LEVELS of 99: more than can be asked for
        OrderSplit x = one("plain lot 1 fee 0 least 0", ";level a 1 99;level a 2 99;level a 3 99;level a 4 99;level a 5 99;level a 6 99");
        Checks.is("DEPTH of 594", x.venue(0, 6), 594);
        Checks.is("cost(0, 120)", x.cost(0, 120), 99 + 42);
        Checks.refused(x, "cost(0, 121)", x.cost(0, 121), Checks.MIN, 2);
        Checks.is("under(0, 999)", x.under(0, 999), 594);
    }

    /** At a PRICE of p at most; LIMIT isn't asked. */
    private static void under() {
        OrderSplit x = Checks.made("order 9 limit 1 life 1;venue a plain lot 20" + FREE + ";level a 1 1;level a 500 2;level a 999 4");
        int[][] want = {{1, 1}, {2, 1}, {499, 1}, {500, 3}, {501, 3}, {998, 3}, {999, 7}};
        for (int[] w : want) {
            Checks.is("under(0, " + w[0] + ")", x.under(0, w[0]), w[1]);
        }
        x.resize(0, 1, 0);
        Checks.is("under(0, 500)", x.under(0, 500), 1);
        Checks.refused(x, "under(0, 0)", x.under(0, 0), -1, 2);
        Checks.refused(x, "under(0, 1000)", x.under(0, 1000), -1, 2);
    }

    /** Every n of every LOT: granted just if it is whole LOTS, DEPTH and 120 at most. */
    private static void costsUnitByUnit() {
        for (int lot = 1; lot <= 20; lot++) {
            for (int size : new int[] {1, 19, 20, 21, 99}) {
                OrderSplit x = one("plain lot " + lot + " fee 2 least 0", ";level a 10 " + size + ";level a 11 30");
                int depth = size + 30;
                for (int n = -1; n <= 121; n++) {
                    boolean whole = n >= 0 && n % lot == 0 && n <= depth && n <= 120;
                    int dearer = Math.max(0, n - size);
                    Checks.is("cost(0, " + n + ") of lot " + lot, x.cost(0, n), whole ? 12 * n + dearer : Checks.MIN);
                    Checks.is("trouble()", x.trouble(), whole ? 0 : 2);
                }
            }
        }
    }

    private static void costsOfNothing() {
        OrderSplit x = one("flat lot 20 fee 9 least 300", "");
        Checks.is("cost(0, 0) without LEVELS", x.cost(0, 0), 0);
        Checks.is("charge(0, 0)", x.charge(0, 0), 0);
        Checks.is("charge(0, 1), no whole LOT", x.charge(0, 1), 300);
        Checks.refused(x, "cost(0, 20)", x.cost(0, 20), Checks.MIN, 2);
        Checks.is("venue(0, 5)", x.venue(0, 5), 0);
        Checks.refused(x, "level(0, 0, 0)", x.level(0, 0, 0), -1, 1);
    }

    // ---- CHARGES

    private static void charges(String venue, int[]... want) {
        OrderSplit x = one(venue, "");
        for (int[] w : want) {
            Checks.is("charge(0, " + w[0] + ") of " + venue, x.charge(0, w[0]), w[1]);
        }
    }

    /** LEAST at least: below it, just it, above it; of no units nothing. */
    private static void leastOfPlain() {
        charges("plain lot 1 fee 2 least 10", new int[][] {{0, 0}, {1, 10}, {4, 10}, {5, 10}, {6, 12}, {120, 240}});
        charges("plain lot 1 fee 3 least 10", new int[][] {{3, 10}, {4, 12}});
        charges("plain lot 1 fee 0 least 1", new int[][] {{0, 0}, {1, 1}, {120, 1}});
        charges("plain lot 1 fee 9 least 300", new int[][] {{1, 300}, {33, 300}, {34, 306}, {120, 1080}});
        charges("plain lot 1 fee 9 least 0", new int[][] {{0, 0}, {1, 9}, {20, 180}, {21, 189}});
        charges("plain lot 1 fee 0 least 0", new int[][] {{0, 0}, {1, 0}, {120, 0}});
    }

    private static void leastOfTiers() {
        charges("tiers lot 1 fee 9 least 300", new int[][] {{0, 0}, {1, 300}, {49, 300}, {50, 300}, {51, 304}});
        charges("tiers lot 1 fee 9 least 180", new int[][] {{19, 180}, {20, 180}, {21, 184}});
        charges("tiers lot 1 fee 1 least 20", new int[][] {{20, 20}, {120, 20}});
        charges("tiers lot 1 fee 1 least 21", new int[][] {{20, 21}, {120, 21}});
        charges("tiers lot 1 fee 0 least 300", new int[][] {{0, 0}, {1, 300}, {120, 300}});
    }

    /** FEE of 0 isn't below 0; that of -1 is. */
    private static void noLeastBelowZero() {
        charges("plain lot 1 fee -1 least 300", new int[][] {{0, 0}, {1, -1}, {120, -120}});
        charges("plain lot 1 fee -0 least 300", new int[][] {{0, 0}, {1, 300}, {120, 300}});
        charges("tiers lot 1 fee -1 least 300", new int[][] {{0, 0}, {1, -1}, {20, -20}, {21, -21}, {120, -120}});
        charges("plain lot 1 fee -9 least 1", new int[][] {{120, -1080}});
        OrderSplit x = one("plain lot 1 fee 0 least 300", ";level a 1 9");
        Checks.is("cost(0, 1)", x.cost(0, 1), 301);
        x.fee(0, -1);
        Checks.is("cost(0, 1) by FEE -1", x.cost(0, 1), 0);
        x.fee(0, -9);
        Checks.is("cost(0, 1) below 0", x.cost(0, 1), -8);
    }

    private static void flat() {
        charges("flat lot 1 fee 9 least 300", new int[][] {{0, 0}, {1, 300}, {120, 300}});
        charges("flat lot 1 fee -9 least 7", new int[][] {{0, 0}, {1, 7}, {120, 7}});
        charges("flat lot 1 fee 9 least 0", new int[][] {{0, 0}, {1, 0}, {120, 0}});
    }

    private static void beyondTheFirstTwenty() {
        charges("tiers lot 1 fee 9 least 0", new int[][] {{19, 171}, {20, 180}, {21, 184}, {22, 188}, {120, 580}});
        charges("tiers lot 1 fee -9 least 0", new int[][] {{19, -171}, {20, -180}, {21, -185}, {22, -190}, {120, -680}});
        charges("tiers lot 1 fee 8 least 0", new int[][] {{20, 160}, {21, 164}});
        // a LOT that goes over the twentieth unit
        OrderSplit x = one("tiers lot 7 fee 9 least 0", ";level a 10 99");
        Checks.is("cost(0, 14)", x.cost(0, 14), 140 + 126);
        Checks.is("cost(0, 21)", x.cost(0, 21), 210 + 184);
    }

    /** Half of FEE is the lower WHOLE. */
    private static void halvesOfFees() {
        OrderSplit x = one("tiers lot 1 fee 0 least 0", "");
        int[] half = {-5, -4, -4, -3, -3, -2, -2, -1, -1, 0, 0, 1, 1, 2, 2, 3, 3, 4, 4};
        for (int f = -9; f <= 9; f++) {
            x.fee(0, f);
            Checks.is("charge(0, 20) by FEE " + f, x.charge(0, 20), 20 * f);
            Checks.is("charge(0, 21) by FEE " + f, x.charge(0, 21), 20 * f + half[f + 9]);
            Checks.is("charge(0, 120) by FEE " + f, x.charge(0, 120), 20 * f + 100 * half[f + 9]);
        }
    }

    // ---- splits of q

    /** DEPTH less than LOT by one unit, and just LOT. */
    private static void dryByOneUnit() {
        for (int lot = 1; lot <= 20; lot++) {
            OrderSplit x = one("plain lot " + lot + " fee 0 least 0", ";level a 1 99;level a 501 99");
            x.resize(0, 0, lot - 1);
            Checks.is("dry(0), a unit less than LOT " + lot, Checks.dry(x, 0), 0);
            Checks.is("dry(1)", Checks.dry(x, 1), -9);
            Checks.is("units(120)", x.units(120), 0);
            Checks.is("fewest(120)", x.fewest(120), 0);
            Checks.refused(x, "plan(0, lot)", x.plan(0, lot), -1, 2);
            x.resize(0, 0, lot);
            Checks.is("dry(0), just LOT " + lot, Checks.dry(x, 0), -9);
            Checks.is("units(120)", x.units(120), lot);
            Checks.is("plan(0, lot)", x.plan(0, lot), 0);
        }
        OrderSplit five = Checks.made("order 9 limit 9 life 1;venue a plain lot 2" + FREE + ";venue b plain lot 2" + FREE
            + ";venue c plain lot 2" + FREE + ";venue d plain lot 2" + FREE + ";venue e plain lot 2" + FREE
            + ";level a 1 1;level b 1 2;level c 1 1;level d 1 3;level e 1 1");
        int[] dry = {0, 2, 4, -9, -9};
        for (int i = 0; i < 5; i++) {
            Checks.is("dry(" + i + ")", Checks.dry(five, i), dry[i]);
        }
        Checks.is("dry(-1)", Checks.dry(five, -1), -9);
        Checks.is("dry of none", Checks.dry(new OrderSplit(), 0), -9);
    }

    private static void fewerThanALot() {
        for (int lot = 2; lot <= 20; lot++) {
            OrderSplit x = one("flat lot " + lot + " fee 0 least 7", ";level a 1 99");
            Checks.is("units of a unit less than LOT " + lot, x.units(lot - 1), 0);
            Checks.is("best of it", x.best(lot - 1), 0);
            Checks.is("share of it", x.share(lot - 1, 0), 0);
            Checks.is("gap of it", x.gap(lot - 1), 0);
            Checks.is("greedy of it", x.greedy(lot - 1, 1), 0);
            Checks.is("greedy of it, VENUES", x.greedy(lot - 1, 2), 0);
            Checks.is("worth of it", x.worth(lot - 1, 0), 0);
            Checks.is("fewest of it", x.fewest(lot - 1), 0);
            // BOUND isn't of whole LOTS
            Checks.is("bound of it", x.bound(lot - 1), lot - 1);
            Checks.is("margin of it", x.margin(lot - 1), 1);
            Checks.is("units of just LOT " + lot, x.units(lot), lot);
            Checks.is("best of it", x.best(lot), lot + 7);
            Checks.is("greedy of it", x.greedy(lot, 1), lot);
            Checks.is("worth of it", x.worth(lot, 0), -2);
            Checks.is("fewest of it", x.fewest(lot), 1);
            Checks.is("units of a unit less than two", x.units(2 * lot - 1), lot);
        }
    }

    private static void fewerThanAsked() {
        OrderSplit x = Checks.made("order 9 limit 9 life 1;venue a plain lot 4" + FREE + ";venue b plain lot 3" + FREE
            + ";level a 1 7;level b 2 5");
        int[] units = {0, 0, 3, 4, 4, 4, 7, 7, 7};
        for (int q = 1; q <= 9; q++) {
            Checks.is("units(" + q + ")", x.units(q), units[q - 1]);
        }
        Checks.is("units(120)", x.units(120), 7);
        Checks.is("best(120)", x.best(120), 4 + 6);
        Checks.is("greedy(120, 1)", x.greedy(120, 1), 7);
        // BOUND of all units that there are, 12; that of GAP of 7
        Checks.is("bound(120)", x.bound(120), 7 + 10);
        Checks.is("bound(12)", x.bound(12), 17);
        Checks.is("bound(11)", x.bound(11), 15);
        Checks.is("margin(7)", x.margin(7), 1);
        Checks.is("margin(8)", x.margin(8), 2);
        Checks.is("margin(120)", x.margin(120), 2);
        Checks.is("gap(120)", x.gap(120), 10 - 7);
    }

    /** One unit more is worth any price; less isn't. */
    private static void mostUnitsAheadOfCost() {
        OrderSplit x = Checks.made("order 9 limit 999 life 1;venue a plain lot 4" + FREE + ";venue b flat lot 5 fee 0 least 300 delay 1"
            + ";level a 1 99;level b 999 99");
        Checks.is("share(4, 0)", x.share(4, 0), 4);
        Checks.is("share(5, 1)", x.share(5, 1), 5);
        Checks.is("best(5)", x.best(5), 5295);
        Checks.is("greedy(5, 0), that doesn't see it", x.greedy(5, 0), 4);
        Checks.is("share(8, 0)", x.share(8, 0), 8);
        Checks.is("best(9)", x.best(9), 4 + 5295);
    }

    /** Of like ones most at VENUE 0, then 1: also where that is no greedy choice. */
    private static void likeOnes() {
        OrderSplit x = Checks.made("order 9 limit 9 life 1;venue a plain lot 3" + FREE + ";venue b plain lot 2" + FREE
            + ";venue c plain lot 1" + FREE + ";level a 5 9;level b 5 9;level c 5 9");
        int[][] want = {{1, 0, 0, 1}, {2, 0, 2, 0}, {3, 3, 0, 0}, {4, 3, 0, 1}, {5, 3, 2, 0}, {6, 6, 0, 0}, {10, 9, 0, 1}, {11, 9, 2, 0},
            {18, 9, 8, 1}, {20, 9, 8, 3}};
        for (int[] w : want) {
            for (int v = 0; v < 3; v++) {
                Checks.is("share(" + w[0] + ", " + v + ")", x.share(w[0], v), w[v + 1]);
            }
        }
        // one less at one place than another: no like ones
        x.fee(2, -1);
        Checks.is("share(3, 2)", x.share(3, 2), 3);
        x.fee(2, 1);
        Checks.is("share(4, 1)", x.share(4, 1), 4);
    }

    /** What was asked before doesn't count any more. */
    private static void afterSizesBecameLess() {
        OrderSplit x = Checks.made("order 9 limit 9 life 1;venue a plain lot 1" + FREE + ";venue b plain lot 1" + FREE
            + ";level a 5 9;level b 5 9");
        Checks.is("share(5, 0)", x.share(5, 0), 5);
        Checks.is("greedy(5, 2)", x.greedy(5, 2), 1);
        x.resize(0, 0, 1);
        Checks.is("share(5, 0) of less", x.share(5, 0), 1);
        Checks.is("share(5, 1) of less", x.share(5, 1), 4);
        Checks.is("greedy(5, 2) of less", x.greedy(5, 2), 3);
        x.resize(0, 0, 0);
        Checks.is("share(5, 0) of none", x.share(5, 0), 0);
        x.resize(1, 0, 0);
        Checks.is("units(5) of none at all", x.units(5), 0);
        Checks.is("best(5) of none at all", x.best(5), 0);
    }

    // ---- BOUND, MARGIN, GAP

    private static void bound(OrderSplit x, int q, int bound, int margin) {
        Checks.is("bound(" + q + ")", x.bound(q), bound);
        Checks.is("margin(" + q + ")", x.margin(q), margin);
        Checks.is("trouble()", x.trouble(), 0);
    }

    private static void boundByUnits() {
        OrderSplit x = Checks.made("order 9 limit 9 life 1;venue a plain lot 20" + FREE + ";venue b plain lot 20 fee 1 least 300 delay 1"
            + ";level a 3 2;level a 5 1;level b 2 1;level b 3 1;level b 9 1;level b 10 99");
        // a's 3, 3 and b's 3 (2 and 1) first, then b's 4, a's 5, b's 10
        int[][] want = {{1, 3, 3}, {2, 6, 3}, {3, 9, 3}, {4, 13, 4}, {5, 18, 5}, {6, 28, 10}, {7, 28, 10}, {120, 28, 10}};
        for (int[] w : want) {
            bound(x, w[0], w[1], w[2]);
        }
        x.resize(1, 2, 0);
        bound(x, 6, 18, 5);
        x.resize(0, 0, 0);
        x.resize(0, 1, 0);
        x.resize(1, 0, 0);
        bound(x, 1, 4, 4);
        x.resize(1, 1, 0);
        bound(x, 1, 0, Checks.MIN);
    }

    /** Of flat 0, of tiers the lesser of FEE and its half, of plain FEE. */
    private static void boundOfKinds() {
        int[][] want = {{0, 9, 9}, {0, -9, -9}, {0, 1, 1}, {0, -1, -1}, {1, 9, 4}, {1, 1, 0}, {1, 0, 0}, {1, -1, -1}, {1, -2, -2},
            {1, -9, -9}, {1, 8, 4}, {2, 9, 0}, {2, -9, 0}};
        for (int[] w : want) {
            String kind = new String[] {"plain", "tiers", "flat"}[w[0]];
            OrderSplit x = one(kind + " lot 1 fee 0 least 300", ";level a 10 99");
            x.fee(0, w[1]);
            bound(x, 1, 10 + w[2], 10 + w[2]);
            bound(x, 50, 500 + 50 * w[2], 10 + w[2]);
        }
        OrderSplit below = one("plain lot 1 fee -9 least 0", ";level a 1 99");
        bound(below, 99, -8 * 99, -8);
    }

    private static void gapOfFewerUnits() {
        OrderSplit x = one("plain lot 10 fee 1 least 30", ";level a 5 15;level a 7 15");
        Checks.is("gap(9)", x.gap(9), 0);
        Checks.is("gap(10)", x.gap(10), 30 - 10);
        Checks.is("gap(19)", x.gap(19), 30 - 10);
        Checks.is("gap(20)", x.gap(20), 30 - 20);
        Checks.is("gap(30), of its LEAST", x.gap(30), 0);
        Checks.is("gap(120)", x.gap(120), 0);
    }

    // ---- GREEDY, WORTH, the fewest

    private static void greedyByFractions() {
        // 10 for 3 and 7 for 2; of 7 for 2 and 14 for 4 the first
        OrderSplit x = Checks.made("order 9 limit 9 life 1;venue a plain lot 4 fee 0 least 2 delay 1;venue b plain lot 2 fee 0 least 1 delay 1"
            + ";level a 3 4;level b 3 2");
        Checks.is("greedy(4, 2), like fractions", x.greedy(4, 2), 1);
        Checks.is("greedy(3, 2), within q", x.greedy(3, 2), 2);
        Checks.is("greedy(6, 0)", x.greedy(6, 0), 14 + 7);
        x.resize(0, 0, 3);
        Checks.is("greedy(4, 2), within DEPTH", x.greedy(4, 2), 2);
        x.resize(0, 0, 4);
        x.fee(1, -1);
        Checks.is("greedy(4, 2), the lesser fraction", x.greedy(4, 2), 2);
        Checks.is("greedy(4, 1)", x.greedy(4, 1), 2);
        Checks.is("greedy(5, 1)", x.greedy(5, 1), 2);
        Checks.is("greedy(6, 1)", x.greedy(6, 1), 6);
    }

    /** Again and again, till none can: of q, and of all DEPTHS. */
    private static void greedyToTheEnd() {
        OrderSplit x = Checks.made("order 9 limit 9 life 1;venue a plain lot 1" + FREE + ";venue b plain lot 1" + FREE
            + ";venue c plain lot 1" + FREE + ";venue d plain lot 1" + FREE + ";venue e plain lot 1" + FREE
            + ";level a 1 30;level b 2 30;level c 3 30;level d 4 30;level e 5 30");
        Checks.is("greedy(120, 1)", x.greedy(120, 1), 120);
        Checks.is("greedy(120, 2)", x.greedy(120, 2), 15);
        Checks.is("greedy(120, 0)", x.greedy(120, 0), 300);
        Checks.is("greedy(1, 2)", x.greedy(1, 2), 1);
        Checks.is("greedy(30, 2)", x.greedy(30, 2), 1);
        Checks.is("greedy(31, 2)", x.greedy(31, 2), 3);
        x.resize(0, 0, 29);
        Checks.is("greedy(120, 2), with the last one", x.greedy(120, 2), 31);
        // a LOT that doesn't fit is passed over for one that does
        OrderSplit y = Checks.made("order 9 limit 9 life 1;venue a plain lot 6" + FREE + ";venue b plain lot 5" + FREE
            + ";level a 1 99;level b 9 99");
        Checks.is("greedy(11, 1)", y.greedy(11, 1), 11);
        Checks.is("greedy(10, 1)", y.greedy(10, 1), 6);
        Checks.is("units(10)", y.units(10), 10);
    }

    private static void worth() {
        OrderSplit x = Checks.made("order 9 limit 9 life 1;venue a plain lot 1" + FREE + ";venue b plain lot 1" + FREE
            + ";level a 1 4;level b 2 4");
        Checks.is("worth(4, 0), as many without it", x.worth(4, 0), 4);
        Checks.is("worth(5, 0), fewer by one", x.worth(5, 0), -2);
        Checks.is("worth(4, 1), that isn't used", x.worth(4, 1), 0);
        Checks.is("worth(5, 1)", x.worth(5, 1), -2);
        Checks.is("worth(120, 0)", x.worth(120, 0), -2);
        x.resize(1, 0, 0);
        Checks.is("worth(120, 1), of none", x.worth(120, 1), 0);
        x.resize(0, 0, 0);
        Checks.is("worth(120, 0), of none at all", x.worth(120, 0), 0);
        // a like one: worth nothing, though it is used
        x.resize(0, 0, 4);
        x.resize(1, 0, 4);
        x.fee(0, 1);
        Checks.is("share(4, 0)", x.share(4, 0), 4);
        Checks.is("worth(4, 0)", x.worth(4, 0), 0);
    }

    private static void fewest() {
        OrderSplit x = Checks.made("order 9 limit 9 life 1;venue a plain lot 1" + FREE + ";venue b plain lot 1" + FREE
            + ";venue c plain lot 1" + FREE + ";venue d plain lot 1" + FREE + ";venue e plain lot 1" + FREE
            + ";level a 1 10;level b 1 20;level c 1 5;level d 1 4;level e 1 3");
        int[][] want = {{1, 1}, {20, 1}, {21, 2}, {30, 2}, {31, 3}, {35, 3}, {36, 4}, {39, 4}, {40, 5}, {42, 5}, {43, 5}, {120, 5}};
        for (int[] w : want) {
            Checks.is("fewest(" + w[0] + ")", x.fewest(w[0]), w[1]);
        }
        // whole LOTS: 8 of 5 and 3, though 9 could be had of one
        OrderSplit y = Checks.made("order 9 limit 9 life 1;venue a plain lot 5" + FREE + ";venue b plain lot 3" + FREE
            + ";level a 1 9;level b 1 9");
        Checks.is("fewest(8)", y.fewest(8), 2);
        Checks.is("fewest(9)", y.fewest(9), 1);
        Checks.is("fewest(10)", y.fewest(10), 1);
        Checks.is("fewest(11)", y.fewest(11), 2);
    }

    // ---- the PLAN

    private static void planToItsEdges() {
        OrderSplit x = Checks.made("order 10 limit 9 life 1;venue a plain lot 1" + FREE + ";venue b plain lot 1" + FREE
            + ";level a 1 7;level b 1 7");
        Checks.is("plan(0, 7), DEPTH", x.plan(0, 7), 0);
        Checks.refused(x, "plan(0, 8), more than DEPTH", x.plan(0, 8), -1, 2);
        Checks.is("plan(1, 3), ORDER", x.plan(1, 3), 0);
        Checks.refused(x, "plan(1, 4), more than ORDER", x.plan(1, 4), -1, 2);
        Checks.is("plan(0, 6)", x.plan(0, 6), 7);
        Checks.is("plan(1, 4), ORDER again", x.plan(1, 4), 3);
        Checks.refused(x, "plan(0, 7), more than ORDER", x.plan(0, 7), -1, 2);
        Checks.refused(x, "plan(0, -1)", x.plan(0, -1), -1, 2);
        Checks.is("planned(0)", x.planned(0), 10);
        // what is planned already isn't counted twice
        Checks.is("plan(0, 6) again", x.plan(0, 6), 6);
        // ORDER is less now: only what brings the PLAN down to it
        x.order(5);
        Checks.refused(x, "plan(0, 2), 6 in all", x.plan(0, 2), -1, 2);
        Checks.is("plan(0, 1), 5 in all", x.plan(0, 1), 6);
        Checks.is("planned(0)", x.planned(0), 5);
    }

    private static void planOfWholeLots() {
        OrderSplit x = Checks.made("order 120 limit 9 life 1;venue a plain lot 20" + FREE + ";level a 1 99;level a 2 40");
        for (int n = -1; n <= 121; n++) {
            boolean whole = n >= 0 && n <= 120 && n % 20 == 0;
            int was = x.planned(0);
            Checks.is("plan(0, " + n + ")", x.plan(0, n), whole ? was : -1);
            Checks.is("trouble()", x.trouble(), whole ? 0 : 2);
        }
        Checks.is("planned(0)", x.planned(0), 120);
        Checks.is("planned(1)", x.planned(1), 99 + 42);
    }

    /** As many units as the least common multiple, of one that has just as many, or a LOT less. */
    private static void moveByMultiples() {
        int[][] lots = {{1, 1, 1}, {2, 3, 6}, {4, 6, 12}, {20, 20, 20}, {1, 20, 20}, {20, 1, 20}, {19, 5, 95}, {8, 12, 24}};
        for (int[] w : lots) {
            OrderSplit x = Checks.made("order 120 limit 9 life 1;venue a plain lot " + w[0] + FREE + ";venue b plain lot " + w[1] + FREE
                + ";level a 5 99;level b 3 99");
            Checks.is("plan(0, multiple)", x.plan(0, w[2]), 0);
            Checks.is("move() of " + w[0] + " and " + w[1], x.move(), 1);
            x.plan(0, w[2] - w[0]);
            Checks.is("move() of a LOT less", x.move(), -2);
        }
        // 380 is more than there can be
        OrderSplit far = Checks.made("order 120 limit 9 life 1;venue a plain lot 20" + FREE + ";venue b plain lot 19" + FREE
            + ";level a 5 99;level a 6 99;level b 3 99;level b 4 99");
        far.plan(0, 120);
        Checks.is("move() of 380", far.move(), -2);
        Checks.is("planned(2), for 120 is six of 20 alone", far.planned(2), 0);
    }

    private static void moveIntoDepth() {
        OrderSplit x = Checks.made("order 120 limit 9 life 1;venue a plain lot 2" + FREE + ";venue b plain lot 3" + FREE
            + ";level a 5 99;level b 3 9;level b 10 99");
        x.plan(0, 6);
        x.plan(1, 3);
        Checks.is("move(), just DEPTH", x.move(), 1);
        x.resize(1, 0, 8);
        Checks.is("move(), a unit more than DEPTH", x.move(), -2);
        x.resize(1, 0, 9);
        x.plan(1, 6);
        Checks.is("move(), a LOT more than DEPTH", x.move(), -2);
    }

    /** Cheaper by 1, or no cheaper; of several the least; never to itself. */
    private static void moveThatIsCheaper() {
        OrderSplit x = Checks.made("order 120 limit 99 life 1;venue a plain lot 1" + FREE + ";venue b plain lot 1" + FREE
            + ";venue c plain lot 1" + FREE + ";level a 5 9;level b 5 9;level c 5 9");
        x.plan(0, 2);
        x.plan(1, 2);
        x.plan(2, 2);
        Checks.is("move(), all alike", x.move(), -2);
        x.fee(0, -1);
        Checks.is("move() to a, from b or c", x.move(), 10);
        x.fee(2, 1);
        Checks.is("move() from c to a", x.move(), 20);
        x.plan(0, 0);
        x.plan(2, 0);
        Checks.is("move() from b", x.move(), 10);
        x.plan(1, 0);
        Checks.is("move() of nothing", x.move(), -2);
        OrderSplit five = Checks.made("order 120 limit 99 life 1;venue a plain lot 1" + FREE + ";venue b plain lot 1" + FREE
            + ";venue c plain lot 1" + FREE + ";venue d plain lot 1" + FREE + ";venue e plain lot 1" + FREE
            + ";level a 9 9;level b 9 9;level c 9 9;level d 2 9;level e 5 9");
        five.plan(4, 1);
        Checks.is("move() from the last", five.move(), 43);
        five.plan(4, 0);
        five.plan(3, 9);
        five.resize(3, 0, 8);
        Checks.refused(five, "move() in what can't be had", five.move(), -1, 5);
        five.resize(3, 0, 9);
        Checks.is("move() of what can", five.move(), -2);
        Checks.is("adopt(20)", five.adopt(20), 20);
        Checks.is("move() in THE BEST", five.move(), -2);
        Checks.is("planned(2)", five.planned(2), 0);
    }

    /** 1 .. ORDER; what is planned is THE BEST's, and all that was planned is no more. */
    private static void adoptToOrder() {
        OrderSplit x = Checks.made("order 10 limit 9 life 1;venue a plain lot 3" + FREE + ";venue b plain lot 1" + FREE
            + ";level a 1 9;level b 2 1");
        Checks.is("adopt(10)", x.adopt(10), 10);
        Checks.refused(x, "adopt(11)", x.adopt(11), -1, 2);
        Checks.is("planned(0) stays", x.planned(0), 10);
        Checks.is("adopt(1)", x.adopt(1), 1);
        Checks.is("planned(1)", x.planned(1), 2);
        Checks.refused(x, "adopt(0)", x.adopt(0), -1, 2);
        x.order(11);
        Checks.is("adopt(11)", x.adopt(11), 10);
        x.order(1);
        Checks.refused(x, "planned(0), more than ORDER", x.planned(0), Checks.MIN, 5);
        Checks.refused(x, "adopt(2)", x.adopt(2), -1, 2);
        x.resize(1, 0, 0);
        Checks.is("adopt(1), of no units", x.adopt(1), 0);
        Checks.is("planned(0)", x.planned(0), 0);
        Checks.is("plan(0, 0)", x.plan(0, 0), 0);
    }
}

/** Promises 7 to 11: of venues, charges and costs; and 39, 32 as far as depths go. */
public final class VenueTest {
    private static final String TEXT = "order 120 limit 50 life 1"
        + ";venue a plain lot 3 fee 2 least 10 delay 4"
        + ";venue b tiers lot 5 fee 5 least 7 delay 9"
        + ";venue c flat lot 1 fee -4 least 30 delay 1"
        + ";venue d tiers lot 1 fee -5 least 99 delay 2"
        + ";venue e plain lot 20 fee -1 least 50 delay 3"
        + ";level a 10 4;level a 12 3;level a 50 2;level a 51 90"
        + ";level b 20 99;level b 21 99"
        + ";level c 7 1"
        + ";level d 1 60";

    public static void main(String[] args) {
        venues();
        levels();
        charges();
        costs();
        under();
        dry();
        Checks.end("VenueTest");
    }

    private static OrderSplit made() {
        return Checks.made(TEXT);
    }

    /** Promise 7. */
    private static void venues() {
        OrderSplit x = made();
        int[][] want = {{0, 3, 2, 10, 4, 4, 9}, {1, 5, 5, 7, 9, 2, 198}, {2, 1, -4, 30, 1, 1, 1},
            {1, 1, -5, 99, 2, 1, 60}, {0, 20, -1, 50, 3, 0, 0}};
        for (int v = 0; v < 5; v++) {
            for (int what = 0; what < 7; what++) {
                Checks.is("venue(" + v + ", " + what + ")", x.venue(v, what), want[v][what]);
                Checks.is("trouble()", x.trouble(), 0);
            }
        }
        Checks.refused(x, "venue(5, 0)", x.venue(5, 0), Checks.MIN, 1);
        Checks.refused(x, "venue(-1, 0)", x.venue(-1, 0), Checks.MIN, 1);
        Checks.refused(x, "venue(0, 7)", x.venue(0, 7), Checks.MIN, 1);
        Checks.refused(x, "venue(0, -1)", x.venue(0, -1), Checks.MIN, 1);
        x.resize(0, 1, 0);
        x.resize(0, 3, 0);
        Checks.is("DEPTH by SIZES as they are", x.venue(0, 6), 6);
        Checks.is("LEVELS of size 0 are LEVELS", x.venue(0, 5), 4);
    }

    /** Promise 8. */
    private static void levels() {
        OrderSplit x = made();
        Checks.is("level(0, 0, 0)", x.level(0, 0, 0), 10);
        Checks.is("level(0, 3, 0)", x.level(0, 3, 0), 51);
        Checks.is("level(0, 3, 1)", x.level(0, 3, 1), 90);
        Checks.is("level(1, 1, 1)", x.level(1, 1, 1), 99);
        x.resize(1, 1, 0);
        Checks.is("SIZE as it is", x.level(1, 1, 1), 0);
        Checks.is("trouble()", x.trouble(), 0);
        Checks.refused(x, "level(0, 4, 0)", x.level(0, 4, 0), -1, 1);
        Checks.refused(x, "level(0, -1, 0)", x.level(0, -1, 0), -1, 1);
        Checks.refused(x, "level(4, 0, 0)", x.level(4, 0, 0), -1, 1);
        Checks.refused(x, "level(5, 0, 0)", x.level(5, 0, 0), -1, 1);
        Checks.refused(x, "level(-1, 0, 0)", x.level(-1, 0, 0), -1, 1);
        Checks.refused(x, "level(0, 0, 2)", x.level(0, 0, 2), -1, 1);
        Checks.refused(x, "level(0, 0, -1)", x.level(0, 0, -1), -1, 1);
    }

    private static void charge(OrderSplit x, int v, int n, int want) {
        Checks.is("charge(" + v + ", " + n + ")", x.charge(v, n), want);
        Checks.is("trouble()", x.trouble(), 0);
    }

    /** Promise 9. */
    private static void charges() {
        OrderSplit x = made();
        for (int v = 0; v < 5; v++) {
            charge(x, v, 0, 0);
        }
        charge(x, 0, 1, 10);
        charge(x, 0, 5, 10);
        charge(x, 0, 6, 12);
        charge(x, 0, 120, 240);
        charge(x, 1, 1, 7);
        charge(x, 1, 2, 10);
        charge(x, 1, 20, 100);
        charge(x, 1, 21, 102);
        charge(x, 1, 120, 300);
        charge(x, 2, 1, 30);
        charge(x, 2, 120, 30);
        charge(x, 3, 1, -5);
        charge(x, 3, 20, -100);
        charge(x, 3, 22, -106);
        charge(x, 4, 120, -120);
        x.fee(4, 0);
        charge(x, 4, 120, 50);
        Checks.refused(x, "charge(5, 1)", x.charge(5, 1), Checks.MIN, 1);
        Checks.refused(x, "charge(5, 121)", x.charge(5, 121), Checks.MIN, 1);
        Checks.refused(x, "charge(0, -1)", x.charge(0, -1), Checks.MIN, 2);
        Checks.refused(x, "charge(0, 121)", x.charge(0, 121), Checks.MIN, 2);
    }

    /** Promise 10. */
    private static void costs() {
        OrderSplit x = made();
        int[][] want = {{0, 0, 0}, {0, 3, 40}, {0, 6, 40 + 24 + 12}, {0, 9, 40 + 36 + 100 + 18}, {1, 100, 1980 + 21 + 260},
            {1, 120, 1980 + 21 * 21 + 300}, {2, 1, 37}, {3, 25, 25 - 100 - 15}, {3, 1, -4}, {4, 0, 0}};
        for (int[] w : want) {
            Checks.is("cost(" + w[0] + ", " + w[1] + ")", x.cost(w[0], w[1]), w[2]);
            Checks.is("trouble()", x.trouble(), 0);
        }
        Checks.refused(x, "cost of no whole LOTS", x.cost(0, 4), Checks.MIN, 2);
        Checks.refused(x, "cost of more than DEPTH", x.cost(0, 12), Checks.MIN, 2);
        Checks.refused(x, "cost of more than 120", x.cost(1, 125), Checks.MIN, 2);
        Checks.refused(x, "cost(0, -3)", x.cost(0, -3), Checks.MIN, 2);
        Checks.refused(x, "cost(4, 20)", x.cost(4, 20), Checks.MIN, 2);
        Checks.refused(x, "cost(5, -1)", x.cost(5, -1), Checks.MIN, 1);
        Checks.refused(x, "cost(-1, 0)", x.cost(-1, 0), Checks.MIN, 1);
        x.resize(0, 0, 0);
        Checks.is("cost by SIZES as they are", x.cost(0, 3), 36 + 10);
    }

    /** Promise 11. */
    private static void under() {
        OrderSplit x = made();
        int[][] want = {{0, 9, 0}, {0, 10, 4}, {0, 49, 7}, {0, 50, 9}, {0, 51, 99}, {0, 999, 99}, {0, 1, 0}, {4, 999, 0}};
        for (int[] w : want) {
            Checks.is("under(" + w[0] + ", " + w[1] + ")", x.under(w[0], w[1]), w[2]);
            Checks.is("trouble()", x.trouble(), 0);
        }
        Checks.refused(x, "under(0, 0)", x.under(0, 0), -1, 2);
        Checks.refused(x, "under(0, 1000)", x.under(0, 1000), -1, 2);
        Checks.refused(x, "under(5, 0)", x.under(5, 0), -1, 1);
        x.resize(0, 3, 5);
        Checks.is("under by SIZES as they are", x.under(0, 999), 14);
    }

    /** Promise 39. */
    private static void dry() {
        OrderSplit x = made();
        x.about(9);
        Checks.is("dry(0)", Checks.dry(x, 0), 4);
        Checks.is("dry(1)", Checks.dry(x, 1), -9);
        Checks.is("dry(-1)", Checks.dry(x, -1), -9);
        x.resize(0, 0, 0);
        x.resize(0, 1, 0);
        x.resize(2, 0, 0);
        Checks.is("dry(0) of three", Checks.dry(x, 0), 0);
        Checks.is("dry(1) of three", Checks.dry(x, 1), 2);
        Checks.is("dry(2) of three", Checks.dry(x, 2), 4);
        Checks.is("dry(3) of three", Checks.dry(x, 3), -9);
        x.resize(0, 0, 1);
        Checks.is("DEPTH of a LOT is enough", Checks.dry(x, 0), 2);
        x.about(9);
        Checks.dry(x, 9);
        Checks.is("trouble() isn't dry's", x.trouble(), 1);
    }
}

import java.lang.reflect.InvocationTargetException;
import java.lang.reflect.Method;
import java.lang.reflect.Modifier;
import java.util.Arrays;
import java.util.HashMap;
import java.util.List;
import java.util.Map;
import java.util.NoSuchElementException;
import java.util.Set;
import java.util.function.Supplier;
import java.util.function.ToLongFunction;

/**
 * Terms IV: for each refusal of each promise the answer, what trouble() and where() tell then, and
 * that the state is as it was; beside each the last call that is granted.
 */
public final class RefusalsTest {
    /** DEPTHS: a 198 (more than 120), b 13, c 3, d 0 (all above LIMIT). */
    private static final String TEXT = "order 40 limit 20 life 3;venue a plain lot 2 fee 1 least 5 delay 9"
        + ";venue b tiers lot 5 fee -3 least 0 delay 1;venue c flat lot 1 fee 0 least 4 delay 2"
        + ";venue d plain lot 1 fee 0 least 0 delay 1;level a 10 99;level a 12 99;level b 11 13;level c 9 3"
        + ";level d 21 9;event 50 a 0 30";
    private static final String NEXT = "order 3 limit 9 life 1;venue z flat lot 1 fee 0 least 0 delay 1";
    private static final int MIN = Integer.MIN_VALUE;
    private static final int MAX = Integer.MAX_VALUE;

    private static final Supplier<OrderSplit> NEW = RefusalsTest::fresh;
    private static final Supplier<OrderSplit> PLANNED = RefusalsTest::planned;
    private static final Supplier<OrderSplit> BEGUN = RefusalsTest::begun;
    private static final Supplier<OrderSplit> OVER = RefusalsTest::over;
    private static final Supplier<OrderSplit> BARE = () -> Checks.made(TEXT);
    /** The PLAN is more than DEPTH by one unit; or more than ORDER by one. */
    private static final Supplier<OrderSplit> TOO_DEEP = RefusalsTest::tooDeep;
    private static final Supplier<OrderSplit> TOO_MUCH = RefusalsTest::tooMuch;

    /** What objects tell that were made alike. */
    private static final Map<Supplier<OrderSplit>, String> TOLD = new HashMap<>();

    /** Calls that answer Integer.MIN_VALUE when refused. */
    private static final Set<String> ANSWER_LEAST = Set.of("venue", "charge", "cost", "best", "bound", "margin", "greedy",
        "planned", "now", "part", "will", "fee");
    private static final Set<String> NEVER_REFUSED = Set.of("feed", "fault", "where", "dry", "size", "trouble");

    public static void main(String[] args) throws Exception {
        withoutASplit();
        theText();
        aboutAndVenues();
        costs();
        splits();
        plan();
        planThatStandsNoMore();
        theRun();
        theRunNotBegun();
        acts();
        actsBegun();
        ticksAndCalls();
        keepAndBack();
        callsThatCantBeRefused();
        sweep();
        Checks.end("RefusalsTest");
    }

    // ---- objects, made alike each time

    private static OrderSplit fresh() {
        OrderSplit x = new OrderSplit();
        Checks.feed(x, NEXT);
        return x;
    }

    /** Something else is kept, and there is something on the tape. */
    private static OrderSplit planned() {
        OrderSplit x = Checks.made(TEXT);
        x.plan(0, 20);
        x.keep();
        x.plan(0, 10);
        x.plan(1, 10);
        x.plan(2, 3);
        x.fee(2, 7);
        x.resize(0, 1, 98);
        Checks.feed(x, NEXT);
        return x;
    }

    /** At TIME 3: a's PART is on its way and called back, b's RESTS, c's answer is on its way, d has none. */
    private static OrderSplit begun() {
        OrderSplit x = planned();
        x.resize(1, 0, 10);
        x.begin();
        x.resize(1, 0, 6);
        x.ticks(1);
        x.keep();
        x.ticks(2);
        x.call(0);
        return x;
    }

    private static OrderSplit over() {
        OrderSplit x = planned();
        x.begin();
        x.ticks(200);
        return x;
    }

    private static OrderSplit tooDeep() {
        OrderSplit x = planned();
        x.resize(1, 0, 9);
        return x;
    }

    private static OrderSplit tooMuch() {
        OrderSplit x = planned();
        x.order(22);
        return x;
    }

    private static void refused(Supplier<OrderSplit> made, String call, ToLongFunction<OrderSplit> act, long answer, int trouble) {
        OrderSplit x = made.get();
        int fault = x.fault();
        Checks.is(call, act.applyAsLong(x), answer);
        Checks.is("trouble() behind " + call, x.trouble(), trouble);
        Checks.is("where() behind " + call, x.where(), -1);
        Checks.is("fault() behind " + call, x.fault(), fault);
        Checks.is("the state behind " + call, Told.of(x).equals(toldOf(made)), true);
    }

    private static void granted(Supplier<OrderSplit> made, String call, ToLongFunction<OrderSplit> act, long answer) {
        OrderSplit x = made.get();
        x.about(-1);
        Checks.is(call, act.applyAsLong(x), answer);
        Checks.is("trouble() behind " + call, x.trouble(), 0);
    }

    // ---- promise by promise

    /** 1 comes first without a SPLIT: with numbers that are right, and with any that are wrong. */
    private static void withoutASplit() throws Exception {
        for (Method m : face()) {
            if (NEVER_REFUSED.contains(m.getName()) || m.getName().equals("split")) {
                continue;
            }
            for (int number : new int[] {MIN, -1, 0, 1, 5, 121, 1000, MAX}) {
                Object[] args = new Object[m.getParameterCount()];
                Arrays.fill(args, number);
                refused(NEW, m.getName() + Arrays.toString(args), x -> (long) answer(x, m, args), refusal(m), 1);
            }
        }
    }

    /** Promises 2 to 5. */
    private static void theText() {
        refused(PLANNED, "split(-1)", x -> x.split(-1), -1, 2);
        refused(PLANNED, "split(MIN)", x -> x.split(MIN), -1, 2);
        refused(PLANNED, "split(81), of 80 bytes", x -> x.split(81), -1, 2);
        refused(PLANNED, "split(MAX)", x -> x.split(MAX), -1, 2);
        granted(PLANNED, "split(80)", x -> x.split(80), 1);
        refused(NEW, "split(81) of a new object", x -> x.split(81), -1, 2);
        for (Supplier<OrderSplit> made : List.of(NEW, PLANNED, BEGUN)) {
            OrderSplit x = made.get();
            Checks.refused(x, "a text with a FAULT", x.split(7), -1, 4);
            Checks.is("where() of it", x.where(), 7);
            Checks.is("fault() of it", x.fault(), 1);
            Checks.is("the tape is empty", x.size(0), 0);
            Checks.is("the SPLIT stays, kept and begun", withoutTape(Told.of(x)).equals(withoutTape(toldOf(made))), true);
        }
    }

    /** Without the first line (fault() and the tape's size) and the last (what the tape holds). */
    private static String withoutTape(String told) {
        return told.substring(told.indexOf('\n'), told.lastIndexOf("tape"));
    }

    /** Promises 6 to 8. */
    private static void aboutAndVenues() {
        granted(PLANNED, "about(0)", x -> x.about(0), 40);
        granted(PLANNED, "about(4)", x -> x.about(4), 1);
        granted(PLANNED, "venue(0, 0)", x -> x.venue(0, 0), 0);
        granted(PLANNED, "venue(3, 6)", x -> x.venue(3, 6), 0);
        granted(PLANNED, "level(0, 1, 1)", x -> x.level(0, 1, 1), 98);
        granted(PLANNED, "level(3, 0, 0)", x -> x.level(3, 0, 0), 21);
        for (Supplier<OrderSplit> made : List.of(PLANNED, BEGUN)) {
            for (int what : new int[] {MIN, -1, 5, MAX}) {
                refused(made, "about(" + what + ")", x -> x.about(what), -1, 1);
            }
            for (int v : new int[] {MIN, -1, 4, 5, MAX}) {
                refused(made, "venue(" + v + ", 0)", x -> x.venue(v, 0), MIN, 1);
                refused(made, "level(" + v + ", 0, 0)", x -> x.level(v, 0, 0), -1, 1);
            }
            for (int what : new int[] {MIN, -1, 7, MAX}) {
                refused(made, "venue(0, " + what + ")", x -> x.venue(0, what), MIN, 1);
            }
            for (int k : new int[] {MIN, -1, 2, 6, MAX}) {
                refused(made, "level(0, " + k + ", 0)", x -> x.level(0, k, 0), -1, 1);
            }
            for (int what : new int[] {MIN, -1, 2, MAX}) {
                refused(made, "level(0, 0, " + what + ")", x -> x.level(0, 0, what), -1, 1);
            }
        }
    }

    /** Promises 9 to 11: 1 comes ahead of 2. */
    private static void costs() {
        granted(PLANNED, "charge(0, 0)", x -> x.charge(0, 0), 0);
        granted(PLANNED, "charge(0, 120)", x -> x.charge(0, 120), 120);
        granted(PLANNED, "cost(0, 0)", x -> x.cost(0, 0), 0);
        granted(PLANNED, "cost(0, 120)", x -> x.cost(0, 120), 990 + 21 * 12 + 120);
        granted(PLANNED, "cost(1, 10)", x -> x.cost(1, 10), 110 - 30);
        granted(PLANNED, "cost(2, 3)", x -> x.cost(2, 3), 31);
        granted(PLANNED, "under(3, 1)", x -> x.under(3, 1), 0);
        granted(PLANNED, "under(3, 999)", x -> x.under(3, 999), 9);
        for (int n : new int[] {MIN, -1, 121, MAX}) {
            refused(PLANNED, "charge(0, " + n + ")", x -> x.charge(0, n), MIN, 2);
        }
        for (int n : new int[] {MIN, -2, -1, 1, 119, 121, 122, 198, MAX}) {
            refused(PLANNED, "cost(0, " + n + ")", x -> x.cost(0, n), MIN, 2);
        }
        for (int n : new int[] {-5, 4, 6, 13, 15}) {
            refused(PLANNED, "cost(1, " + n + ")", x -> x.cost(1, n), MIN, 2);
        }
        refused(PLANNED, "cost(2, 4)", x -> x.cost(2, 4), MIN, 2);
        refused(PLANNED, "cost(3, 1)", x -> x.cost(3, 1), MIN, 2);
        for (int p : new int[] {MIN, -1, 0, 1000, MAX}) {
            refused(PLANNED, "under(0, " + p + ")", x -> x.under(0, p), -1, 2);
        }
        for (int v : new int[] {MIN, -1, 4, MAX}) {
            refused(PLANNED, "charge(" + v + ", 121)", x -> x.charge(v, 121), MIN, 1);
            refused(PLANNED, "cost(" + v + ", -1)", x -> x.cost(v, -1), MIN, 1);
            refused(PLANNED, "under(" + v + ", 0)", x -> x.under(v, 0), -1, 1);
        }
    }

    /** Promises 12 to 20: q is 1 .. 120, whatever ORDER is; 1 comes ahead of 2. */
    private static void splits() {
        for (int q : new int[] {MIN, -1, 0, 121, MAX}) {
            for (Supplier<OrderSplit> made : List.of(PLANNED, BEGUN)) {
                refused(made, "units(" + q + ")", x -> x.units(q), -1, 2);
                refused(made, "best(" + q + ")", x -> x.best(q), MIN, 2);
                refused(made, "share(" + q + ", 0)", x -> x.share(q, 0), -1, 2);
                refused(made, "bound(" + q + ")", x -> x.bound(q), MIN, 2);
                refused(made, "margin(" + q + ")", x -> x.margin(q), MIN, 2);
                refused(made, "gap(" + q + ")", x -> x.gap(q), -1, 2);
                refused(made, "greedy(" + q + ", 0)", x -> x.greedy(q, 0), MIN, 2);
                refused(made, "worth(" + q + ", 3)", x -> x.worth(q, 3), -1, 2);
                refused(made, "fewest(" + q + ")", x -> x.fewest(q), -1, 2);
            }
            for (int wrong : new int[] {MIN, -1, 4, MAX}) {
                refused(PLANNED, "share(" + q + ", " + wrong + ")", x -> x.share(q, wrong), -1, 1);
                refused(PLANNED, "worth(" + q + ", " + wrong + ")", x -> x.worth(q, wrong), -1, 1);
                refused(PLANNED, "greedy(" + q + ", " + wrong + ")", x -> x.greedy(q, wrong), MIN, 1);
            }
        }
        refused(PLANNED, "share(1, 4)", x -> x.share(1, 4), -1, 1);
        refused(PLANNED, "worth(120, -1)", x -> x.worth(120, -1), -1, 1);
        refused(PLANNED, "greedy(1, 3)", x -> x.greedy(1, 3), MIN, 1);
        refused(PLANNED, "greedy(120, -1)", x -> x.greedy(120, -1), MIN, 1);
        grantedSplits();
    }

    /** The least q and the greatest, worked out by hand. */
    private static void grantedSplits() {
        granted(PLANNED, "units(1)", x -> x.units(1), 1);
        granted(PLANNED, "best(1)", x -> x.best(1), 9 + 4);
        granted(PLANNED, "share(1, 2)", x -> x.share(1, 2), 1);
        granted(PLANNED, "share(1, 3)", x -> x.share(1, 3), 0);
        granted(PLANNED, "bound(1)", x -> x.bound(1), 11 - 3);
        granted(PLANNED, "margin(1)", x -> x.margin(1), 11 - 3);
        granted(PLANNED, "gap(1)", x -> x.gap(1), 13 - 8);
        granted(PLANNED, "greedy(1, 0)", x -> x.greedy(1, 0), 13);
        granted(PLANNED, "greedy(1, 2)", x -> x.greedy(1, 2), 4);
        granted(PLANNED, "worth(1, 0)", x -> x.worth(1, 0), 0);
        granted(PLANNED, "worth(1, 2)", x -> x.worth(1, 2), -2);
        granted(PLANNED, "fewest(1)", x -> x.fewest(1), 1);
        // 108 at a (1206), 10 at b (80), 2 at c (22); without c 110 at a (1232)
        granted(PLANNED, "units(120)", x -> x.units(120), 120);
        granted(PLANNED, "best(120)", x -> x.best(120), 1308);
        granted(PLANNED, "share(120, 0)", x -> x.share(120, 0), 108);
        granted(PLANNED, "share(120, 3)", x -> x.share(120, 3), 0);
        granted(PLANNED, "bound(120)", x -> x.bound(120), 13 * 8 + 3 * 9 + 99 * 11 + 5 * 13);
        granted(PLANNED, "margin(120)", x -> x.margin(120), 13);
        granted(PLANNED, "gap(120)", x -> x.gap(120), 1308 - 1285);
        granted(PLANNED, "greedy(120, 0)", x -> x.greedy(120, 0), 1232 + 80);
        granted(PLANNED, "greedy(120, 2)", x -> x.greedy(120, 2), 3);
        granted(PLANNED, "worth(120, 0)", x -> x.worth(120, 0), -2);
        granted(PLANNED, "worth(120, 2)", x -> x.worth(120, 2), 1312 - 1308);
        granted(PLANNED, "worth(120, 3)", x -> x.worth(120, 3), 0);
        granted(PLANNED, "fewest(120)", x -> x.fewest(120), 1);
    }

    /** Promises 21 and 30: of ORDER 40 (23 are planned) and DEPTHS 197, 13, 3, 0. */
    private static void plan() {
        granted(PLANNED, "plan(0, 26), all of ORDER but one", x -> x.plan(0, 26), 10);
        refused(PLANNED, "plan(0, 28), more than ORDER by one", x -> x.plan(0, 28), -1, 2);
        granted(PLANNED, "plan(0, 28), just ORDER", x -> behind(x.plan(2, 1), x.plan(0, 28)), 10);
        granted(PLANNED, "plan(0, 0)", x -> x.plan(0, 0), 10);
        granted(PLANNED, "plan(1, 10) again", x -> x.plan(1, 10), 10);
        granted(PLANNED, "plan(2, 3), all of DEPTH", x -> x.plan(2, 3), 3);
        granted(PLANNED, "plan(3, 0)", x -> x.plan(3, 0), 0);
        for (int n : new int[] {MIN, -2, -1, 1, 9, 11, 40, 198, MAX}) {
            refused(PLANNED, "plan(0, " + n + ")", x -> x.plan(0, n), -1, 2);
        }
        for (int n : new int[] {-5, 4, 6, 13, 15}) {
            refused(PLANNED, "plan(1, " + n + ")", x -> x.plan(1, n), -1, 2);
        }
        refused(PLANNED, "plan(2, 4), more than DEPTH", x -> x.plan(2, 4), -1, 2);
        refused(PLANNED, "plan(3, 1), of no DEPTH", x -> x.plan(3, 1), -1, 2);
        for (int v : new int[] {MIN, -1, 4, MAX}) {
            refused(PLANNED, "plan(" + v + ", 0)", x -> x.plan(v, 0), -1, 1);
            refused(PLANNED, "plan(" + v + ", -1)", x -> x.plan(v, -1), -1, 1);
            refused(BEGUN, "plan(" + v + ", -1), BEGUN", x -> x.plan(v, -1), -1, 1);
        }
        refused(BEGUN, "plan(0, 0), BEGUN", x -> x.plan(0, 0), -1, 5);
        refused(BEGUN, "plan(0, 1), BEGUN", x -> x.plan(0, 1), -1, 2);
        refused(OVER, "plan(0, 0), OVER", x -> x.plan(0, 0), -1, 5);
        granted(PLANNED, "adopt(1)", x -> x.adopt(1), 1);
        granted(PLANNED, "adopt(40)", x -> x.adopt(40), 40);
        for (int q : new int[] {MIN, -1, 0, 41, 120, 121, MAX}) {
            refused(PLANNED, "adopt(" + q + ")", x -> x.adopt(q), -1, 2);
            refused(BEGUN, "adopt(" + q + "), BEGUN", x -> x.adopt(q), -1, 2);
        }
        refused(BEGUN, "adopt(1), BEGUN", x -> x.adopt(1), -1, 5);
        refused(BEGUN, "adopt(40), BEGUN", x -> x.adopt(40), -1, 5);
    }

    /** Promises 22 and 23. */
    private static void planThatStandsNoMore() {
        for (int what : new int[] {MIN, -1, 3, MAX}) {
            for (Supplier<OrderSplit> made : List.of(PLANNED, TOO_DEEP, TOO_MUCH, BEGUN)) {
                refused(made, "planned(" + what + ")", x -> x.planned(what), MIN, 1);
            }
        }
        granted(PLANNED, "planned(0)", x -> x.planned(0), 23);
        granted(PLANNED, "planned(2)", x -> x.planned(2), 0);
        granted(PLANNED, "move()", x -> x.move(), -2);
        for (Supplier<OrderSplit> made : List.of(TOO_DEEP, TOO_MUCH, BEGUN)) {
            for (int what = 0; what < 3; what++) {
                int told = what;
                refused(made, "planned(" + what + ") of what can't be had", x -> x.planned(told), MIN, 5);
            }
            refused(made, "move() in what can't be had", x -> x.move(), -1, 5);
        }
        granted(TOO_DEEP, "planned(0) of just DEPTH", x -> behind(x.resize(1, 0, 10), x.planned(0)), 23);
        granted(TOO_DEEP, "move() in just DEPTH", x -> behind(x.resize(1, 0, 10), x.move()), -2);
        granted(TOO_MUCH, "planned(0) of just ORDER", x -> behind(x.order(23), x.planned(0)), 23);
        granted(TOO_MUCH, "move() in just ORDER", x -> behind(x.order(23), x.move()), -2);
    }

    /** Promises 24 to 29. */
    private static void theRun() {
        int[] now = {3, 40, 8, 27 + 4 + 55, 0, 1, 0, 1};
        for (int what = 0; what < 8; what++) {
            int told = what;
            granted(BEGUN, "now(" + what + ")", x -> x.now(told), now[what]);
        }
        int[][] parts = {{1, 10, 0, 110, 10, 9, 12}, {2, 10, 5, 80, 11, 4, -2}, {3, 3, 3, 31, 9, 4, -2}, {0, 0, 0, 0, 0, -2, -2}};
        for (int v = 0; v < 4; v++) {
            for (int what = 0; what < 7; what++) {
                int at = v;
                int told = what;
                granted(BEGUN, "part(" + v + ", " + what + ")", x -> x.part(at, told), parts[v][what]);
            }
        }
        granted(BEGUN, "entries()", x -> x.entries(), 2);
        granted(BEGUN, "entry(0, 0)", x -> x.entry(0, 0), 1);
        granted(BEGUN, "entry(1, 2)", x -> x.entry(1, 2), 3);
        granted(BEGUN, "bought(0, 10)", x -> x.bought(0, 10), 0);
        granted(BEGUN, "bought(3, MIN)", x -> x.bought(3, MIN), 0);
        for (int wrong : new int[] {MIN, -1, 8, MAX}) {
            refused(BEGUN, "now(" + wrong + ")", x -> x.now(wrong), MIN, 1);
            refused(BEGUN, "part(0, " + wrong + ")", x -> x.part(0, wrong), MIN, 1);
            refused(BEGUN, "part(" + wrong + ", 0)", x -> x.part(wrong, 0), MIN, 1);
            refused(BEGUN, "entry(" + wrong + ", 0)", x -> x.entry(wrong, 0), -1, 1);
            refused(BEGUN, "entry(0, " + wrong + ")", x -> x.entry(0, wrong), -1, 1);
            refused(BEGUN, "bought(" + wrong + ", 10)", x -> x.bought(wrong, 10), -1, 1);
            refused(BEGUN, "will(" + wrong + ")", x -> x.will(wrong), MIN, 1);
        }
        refused(BEGUN, "part(4, 0)", x -> x.part(4, 0), MIN, 1);
        refused(BEGUN, "part(0, 7)", x -> x.part(0, 7), MIN, 1);
        refused(BEGUN, "entry(2, 0)", x -> x.entry(2, 0), -1, 1);
        refused(BEGUN, "entry(0, 3)", x -> x.entry(0, 3), -1, 1);
        refused(BEGUN, "bought(4, 10)", x -> x.bought(4, 10), -1, 1);
        refused(BEGUN, "will(7)", x -> x.will(7), MIN, 1);
    }

    /** 5 comes behind 1. */
    private static void theRunNotBegun() {
        for (Supplier<OrderSplit> made : List.of(PLANNED, BARE)) {
            for (int what = 0; what < 7; what++) {
                int told = what;
                refused(made, "now(" + what + "), not BEGUN", x -> x.now(told), MIN, 5);
                refused(made, "part(3, " + what + "), not BEGUN", x -> x.part(3, told), MIN, 5);
                refused(made, "will(" + what + "), not BEGUN", x -> x.will(told), MIN, 5);
            }
            refused(made, "now(7), not BEGUN", x -> x.now(7), MIN, 5);
            refused(made, "now(8), not BEGUN", x -> x.now(8), MIN, 1);
            refused(made, "part(3, 7), not BEGUN", x -> x.part(3, 7), MIN, 1);
            refused(made, "part(4, 0), not BEGUN", x -> x.part(4, 0), MIN, 1);
            refused(made, "will(7), not BEGUN", x -> x.will(7), MIN, 1);
            refused(made, "entries(), not BEGUN", x -> x.entries(), -1, 5);
            refused(made, "bought(3, 10), not BEGUN", x -> x.bought(3, 10), -1, 5);
            refused(made, "bought(4, 10), not BEGUN", x -> x.bought(4, 10), -1, 1);
            // there is no ENTRY, which is told ahead of 5
            refused(made, "entry(0, 0), not BEGUN", x -> x.entry(0, 0), -1, 1);
        }
    }

    /** Promises 31 to 33. */
    private static void acts() {
        granted(PLANNED, "fee(0, -9)", x -> x.fee(0, -9), 1);
        granted(PLANNED, "fee(3, 9)", x -> x.fee(3, 9), 0);
        for (int f : new int[] {MIN, -10, 10, MAX}) {
            refused(PLANNED, "fee(0, " + f + ")", x -> x.fee(0, f), MIN, 2);
            refused(BEGUN, "fee(0, " + f + "), BEGUN", x -> x.fee(0, f), MIN, 2);
        }
        granted(PLANNED, "resize(0, 0, 0)", x -> x.resize(0, 0, 0), 99);
        granted(PLANNED, "resize(0, 1, 99)", x -> x.resize(0, 1, 99), 98);
        granted(BEGUN, "resize(1, 0, 99), BEGUN", x -> x.resize(1, 0, 99), 1);
        for (Supplier<OrderSplit> made : List.of(PLANNED, BEGUN, OVER)) {
            for (int n : new int[] {MIN, -1, 100, MAX}) {
                refused(made, "resize(0, 1, " + n + ")", x -> x.resize(0, 1, n), -1, 2);
                refused(made, "resize(0, 2, " + n + ")", x -> x.resize(0, 2, n), -1, 1);
            }
            for (int k : new int[] {MIN, -1, 2, 6, MAX}) {
                refused(made, "resize(0, " + k + ", 1)", x -> x.resize(0, k, 1), -1, 1);
            }
        }
        for (int v : new int[] {MIN, -1, 4, MAX}) {
            refused(PLANNED, "fee(" + v + ", 0)", x -> x.fee(v, 0), MIN, 1);
            refused(PLANNED, "fee(" + v + ", 10)", x -> x.fee(v, 10), MIN, 1);
            refused(BEGUN, "fee(" + v + ", 10), BEGUN", x -> x.fee(v, 10), MIN, 1);
            refused(PLANNED, "resize(" + v + ", 0, 1)", x -> x.resize(v, 0, 1), -1, 1);
        }
        granted(PLANNED, "order(1)", x -> x.order(1), 40);
        granted(PLANNED, "order(120)", x -> x.order(120), 40);
        for (int q : new int[] {MIN, -1, 0, 121, MAX}) {
            refused(PLANNED, "order(" + q + ")", x -> x.order(q), -1, 2);
            refused(BEGUN, "order(" + q + "), BEGUN", x -> x.order(q), -1, 2);
        }
    }

    /** BEGUN stays so when it is OVER. */
    private static void actsBegun() {
        granted(BARE, "begin()", x -> x.begin(), 2);
        for (Supplier<OrderSplit> made : List.of(BEGUN, OVER)) {
            refused(made, "fee(0, 1), BEGUN", x -> x.fee(0, 1), MIN, 5);
            refused(made, "fee(3, -9), BEGUN", x -> x.fee(3, -9), MIN, 5);
            refused(made, "order(1), BEGUN", x -> x.order(1), -1, 5);
            refused(made, "order(120), BEGUN", x -> x.order(120), -1, 5);
            refused(made, "begin(), BEGUN", x -> x.begin(), -1, 5);
        }
    }

    /** Promises 35 and 36. */
    private static void ticksAndCalls() {
        granted(BEGUN, "ticks(1)", x -> x.ticks(1), 0);
        granted(BEGUN, "ticks(200)", x -> x.ticks(200), 40 - 8);
        granted(OVER, "ticks(200), OVER", x -> x.ticks(200), 0);
        for (int n : new int[] {MIN, -1, 0, 201, MAX}) {
            refused(BEGUN, "ticks(" + n + ")", x -> x.ticks(n), -1, 2);
            refused(PLANNED, "ticks(" + n + "), not BEGUN", x -> x.ticks(n), -1, 2);
        }
        refused(PLANNED, "ticks(1), not BEGUN", x -> x.ticks(1), -1, 5);
        refused(PLANNED, "ticks(200), not BEGUN", x -> x.ticks(200), -1, 5);
        granted(BEGUN, "call(1), that RESTS", x -> x.call(1), 4);
        refused(BEGUN, "call(0), that is called", x -> x.call(0), -1, 5);
        refused(BEGUN, "call(2), that has ended", x -> x.call(2), -1, 5);
        refused(BEGUN, "call(3), that has no PART", x -> x.call(3), -1, 5);
        refused(OVER, "call(0), OVER", x -> x.call(0), -1, 5);
        refused(PLANNED, "call(0), not BEGUN", x -> x.call(0), -1, 5);
        for (int v : new int[] {MIN, -1, 4, MAX}) {
            refused(BEGUN, "call(" + v + ")", x -> x.call(v), -1, 1);
            refused(PLANNED, "call(" + v + "), not BEGUN", x -> x.call(v), -1, 1);
        }
    }

    /** Promises 37 and 38. */
    private static void keepAndBack() {
        for (Supplier<OrderSplit> made : List.of(PLANNED, BEGUN, OVER)) {
            granted(made, "keep()", x -> x.keep() ? 1 : 0, 1);
            granted(made, "back()", x -> x.back() ? 1 : 0, 1);
        }
        refused(BARE, "back() to nothing", x -> x.back() ? 1 : 0, 0, 1);
        refused(() -> splitAnew(PLANNED.get()), "back() behind a SPLIT", x -> x.back() ? 1 : 0, 0, 1);
    }

    private static OrderSplit splitAnew(OrderSplit x) {
        x.split(80);
        return x;
    }

    /** Promises 2, 39, 40, 41: no number is told for them, so that of the call ahead stays. */
    private static void callsThatCantBeRefused() {
        for (Supplier<OrderSplit> made : List.of(NEW, PLANNED, BEGUN)) {
            OrderSplit x = made.get();
            // d; in the run b and c, too, for what was bought of them
            int dry = made == NEW ? 0 : made == PLANNED ? 1 : 3;
            Checks.refused(x, "about(9)", x.about(9), -1, 1);
            for (int wrong : new int[] {MIN, -1, dry, MAX}) {
                Checks.is("dry(" + wrong + ")", Checks.dry(x, wrong), -9);
                Checks.is("trouble() stays", x.trouble(), 1);
            }
            for (int wrong : new int[] {MIN, -1, 3, MAX}) {
                Checks.is("size(" + wrong + ")", x.size(wrong), -1);
                Checks.is("trouble() stays", x.trouble(), 1);
            }
            Checks.is("the state stays", Told.of(x).equals(toldOf(made)), true);
            fullTape(made);
        }
        granted(PLANNED, "dry(0)", x -> behind(x.about(0), x.dry(0)), 3);
    }

    private static void fullTape(Supplier<OrderSplit> made) {
        OrderSplit x = made.get();
        OrderSplit twin = made.get();
        x.about(9);
        for (int i = 5; i <= 45; i++) {
            Checks.is("feed", x.feed(1, 2, 3, 4, 5), i * 20);
            twin.feed(1, 2, 3, 4, 5);
        }
        Checks.is("feed beyond 900", x.feed(6, 7, 8, 9, 10), -1);
        Checks.is("trouble() stays", x.trouble(), 1);
        Checks.is("none comes", x.size(0), 900);
        Checks.is("the state stays", Told.of(x).equals(Told.of(twin)), true);
    }

    // ---- every call with numbers from end to end

    /** No call throws (but dry); one that is refused answers as told and leaves the state as it was. */
    private static void sweep() throws Exception {
        int[] many = {MIN, MIN + 1, -121, -10, -2, -1, 0, 1, 2, 3, 4, 5, 6, 7, 8, 9, 10, 20, 40, 41, 80, 81, 99, 100, 119, 120, 121,
            198, 200, 201, 400, 900, 901, 999, 1000, MAX - 1, MAX};
        int[] some = {MIN, -2, -1, 0, 1, 2, 3, 4, 5, 7, 10, 28, 121, 1000, MAX};
        int[] few = {MIN, -1, 0, 1, 2, 4, 99, 100, MAX};
        for (Supplier<OrderSplit> made : List.of(NEW, BARE, PLANNED, BEGUN, OVER, TOO_DEEP, TOO_MUCH)) {
            for (Method m : face()) {
                int count = m.getParameterCount();
                int[] numbers = count < 2 ? many : count == 2 ? some : few;
                int all = (int) Math.pow(numbers.length, count < 5 ? count : 0);
                for (int i = 0; i < all; i++) {
                    Object[] args = new Object[count];
                    for (int j = 0, rest = i; j < count; j++, rest /= numbers.length) {
                        args[j] = numbers[rest % numbers.length];
                    }
                    swept(made, m, args);
                }
            }
        }
    }

    private static void swept(Supplier<OrderSplit> made, Method m, Object[] args) throws Exception {
        OrderSplit x = made.get();
        x.about(0);
        int before = x.trouble();
        long answer = answer(x, m, args);
        int trouble = x.trouble();
        String call = m.getName() + Arrays.toString(args);
        if (NEVER_REFUSED.contains(m.getName())) {
            Checks.is("trouble() behind " + call, trouble, before);
        } else if (trouble == 4) {
            Checks.is(call + " has a FAULT", m.getName().equals("split") && answer == -1, true);
        } else if (trouble != 0) {
            Checks.is(call, answer, refusal(m));
            Checks.is("trouble() behind " + call, trouble == 1 || trouble == 2 || trouble == 5, true);
            Checks.is("the state behind " + call, Told.of(x).equals(toldOf(made)), true);
        }
    }

    // ---- what they share

    private static String toldOf(Supplier<OrderSplit> made) {
        return TOLD.computeIfAbsent(made, m -> Told.of(m.get()));
    }

    private static List<Method> face() {
        return Arrays.stream(OrderSplit.class.getDeclaredMethods()).filter(m -> Modifier.isPublic(m.getModifiers())).toList();
    }

    /** The answer of the latter of two calls. */
    private static long behind(long former, long latter) {
        return latter;
    }

    private static long refusal(Method m) {
        return m.getReturnType() == boolean.class ? 0 : ANSWER_LEAST.contains(m.getName()) ? MIN : -1;
    }

    private static long answer(OrderSplit x, Method m, Object[] args) {
        try {
            Object got = m.invoke(x, args);
            return got instanceof Boolean b ? (b ? 1 : 0) : (Integer) got;
        } catch (InvocationTargetException e) {
            boolean due = m.getName().equals("dry") && e.getCause() instanceof NoSuchElementException;
            Checks.is(m.getName() + Arrays.toString(args) + " throws " + e.getCause(), due, true);
            return -9;
        } catch (IllegalAccessException e) {
            throw new IllegalStateException(e);
        }
    }
}

import java.util.ArrayList;
import java.util.Arrays;
import java.util.HashMap;
import java.util.List;
import java.util.Map;
import java.util.NoSuchElementException;
import java.util.TreeSet;
import java.util.regex.Matcher;
import java.util.regex.Pattern;

/**
 * The document once more, written another way and without any thought of speed or room: ModelTest
 * holds OrderSplit against it. Both were written by readers of the same words, so this finds slips
 * of the hand, not misreadings.
 */
final class Model {
    static final int MIN = Integer.MIN_VALUE;

    static final class Level {
        int price;
        int size;
    }

    static final class Part {
        String state = "way";
        int units;
        int bought;
        int spent;
        int hope;
        int cap;
        int due;
        int call = -2;
    }

    static final class Venue {
        String kind;
        int lot;
        int fee;
        int least;
        int delay;
        int plan;
        Part part;
        List<Level> levels = new ArrayList<>();
    }

    record Event(int time, int venue, int level, int size) {
    }

    record Pair(int venue, int price) {
    }

    static final class Split {
        int order;
        int limit;
        int life;
        List<Venue> venues = new ArrayList<>();
        List<Event> events = new ArrayList<>();
        boolean begun;
        int time;
        int rest;
        int spent;
        int slip;
        int rounds;
        List<Pair> ledger = new ArrayList<>();
        Map<Pair, Integer> units = new HashMap<>();

        Split copy() {
            Split s = new Split();
            s.order = order;
            s.limit = limit;
            s.life = life;
            s.events = events;
            s.begun = begun;
            s.time = time;
            s.rest = rest;
            s.spent = spent;
            s.slip = slip;
            s.rounds = rounds;
            s.ledger = new ArrayList<>(ledger);
            s.units = new HashMap<>(units);
            for (Venue v : venues) {
                Venue w = new Venue();
                w.kind = v.kind;
                w.lot = v.lot;
                w.fee = v.fee;
                w.least = v.least;
                w.delay = v.delay;
                w.plan = v.plan;
                for (Level l : v.levels) {
                    Level m = new Level();
                    m.price = l.price;
                    m.size = l.size;
                    w.levels.add(m);
                }
                if (v.part != null) {
                    Part p = v.part;
                    Part r = new Part();
                    r.state = p.state;
                    r.units = p.units;
                    r.bought = p.bought;
                    r.spent = p.spent;
                    r.hope = p.hope;
                    r.cap = p.cap;
                    r.due = p.due;
                    r.call = p.call;
                    w.part = r;
                }
                s.venues.add(w);
            }
            return s;
        }
    }

    record Token(String text, int place) {
    }

    static final class Fault extends Exception {
        final int number;
        final int place;

        Fault(int number, int place) {
            this.number = number;
            this.place = place;
        }
    }

    private String tape = "";
    private Split s;
    private Split kept;
    private int trouble;
    private int fault;
    private int place = -1;

    // ---- reading

    private List<Token> tokens;
    private int at;

    private static List<Token> cut(String text) {
        List<Token> list = new ArrayList<>();
        Matcher m = Pattern.compile("[a-z]+|[0-9]+|[^ ]").matcher(text);
        while (m.find()) {
            boolean good = m.group().matches("[a-z]{1,6}|[0-9]{1,3}|;|-");
            list.add(new Token(good ? m.group() : "?", m.start()));
        }
        list.add(new Token("", text.length()));
        return list;
    }

    private Token peek() {
        return tokens.get(Math.min(at, tokens.size() - 1));
    }

    private Token need(String pattern) throws Fault {
        Token t = peek();
        if (!t.text.matches(pattern)) {
            throw new Fault(1, t.place);
        }
        at++;
        return t;
    }

    private int number(int low, int high) throws Fault {
        Token t = need("[0-9]+");
        int x = Integer.parseInt(t.text);
        if (x < low || x > high) {
            throw new Fault(4, t.place);
        }
        return x;
    }

    private static final String NAME = "(?!(order|venue|level|event)$)[a-z]+";

    private Split read(String text) throws Fault {
        tokens = cut(text);
        at = 0;
        Split r = new Split();
        List<String> names = new ArrayList<>();
        boolean first = true;
        do {
            Token word = need("order|venue|level|event");
            if (word.text.equals("order") && !first) {
                throw new Fault(3, word.place);
            }
            if (!word.text.equals("order") && first) {
                throw new Fault(6, word.place);
            }
            first = false;
            switch (word.text) {
                case "order" -> {
                    r.order = number(1, 120);
                    need("limit");
                    r.limit = number(1, 999);
                    need("life");
                    r.life = number(1, 20);
                }
                case "venue" -> readVenue(r, names, word);
                case "level" -> readLevel(r, names);
                default -> readEvent(r, names, word);
            }
        } while (need(";|").text.equals(";"));
        if (r.venues.isEmpty()) {
            throw new Fault(6, text.length());
        }
        return r;
    }

    private void readVenue(Split r, List<String> names, Token word) throws Fault {
        if (r.venues.size() == 5) {
            throw new Fault(5, word.place);
        }
        Token name = need(NAME);
        if (names.contains(name.text)) {
            throw new Fault(3, name.place);
        }
        names.add(name.text);
        Venue v = new Venue();
        v.kind = need("plain|tiers|flat").text;
        need("lot");
        v.lot = number(1, 20);
        need("fee");
        int sign = 1;
        if (peek().text.equals("-")) {
            at++;
            sign = -1;
        }
        v.fee = sign * number(0, 9);
        need("least");
        v.least = number(0, 300);
        need("delay");
        v.delay = number(1, 9);
        r.venues.add(v);
    }

    private int told(List<String> names) throws Fault {
        Token name = need(NAME);
        if (!names.contains(name.text)) {
            throw new Fault(2, name.place);
        }
        return names.indexOf(name.text);
    }

    private void readLevel(Split r, List<String> names) throws Fault {
        Token name = peek();
        Venue v = r.venues.get(told(names));
        if (v.levels.size() == 6) {
            throw new Fault(5, name.place);
        }
        Level l = new Level();
        l.price = number(v.levels.stream().mapToInt(x -> x.price).max().orElse(0) + 1, 999);
        l.size = number(1, 99);
        v.levels.add(l);
    }

    private void readEvent(Split r, List<String> names, Token word) throws Fault {
        if (r.events.size() == 10) {
            throw new Fault(5, word.place);
        }
        int time = number(r.events.stream().mapToInt(Event::time).max().orElse(1), 200);
        int v = told(names);
        int k = number(0, r.venues.get(v).levels.size() - 1);
        r.events.add(new Event(time, v, k, number(0, 99)));
    }

    // ---- costs

    private static int depth(Split s, Venue v) {
        return v.levels.stream().filter(l -> l.price <= s.limit).mapToInt(l -> l.size).sum();
    }

    private static int half(int fee) {
        return (int) Math.floor(fee / 2.0);
    }

    private static int charge(Venue v, int n) {
        if (n == 0) {
            return 0;
        }
        int sum = 0;
        for (int i = 1; i <= n; i++) {
            sum += v.kind.equals("tiers") && i > 20 ? half(v.fee) : v.fee;
        }
        return switch (v.kind) {
            case "flat" -> v.least;
            default -> v.fee < 0 ? sum : Math.max(v.least, sum);
        };
    }

    /** The prices of the units there, one by one, the cheapest first. */
    private static List<Integer> unitPrices(Venue v, int most) {
        List<Integer> list = new ArrayList<>();
        for (Level l : v.levels) {
            for (int i = 0; i < l.size && l.price <= most; i++) {
                list.add(l.price);
            }
        }
        return list;
    }

    private static int cost(Venue v, int n) {
        return charge(v, n) + unitPrices(v, 999).subList(0, n).stream().mapToInt(x -> x).sum();
    }

    // ---- the best

    record Best(int units, int cost, List<Integer> shares) {
        boolean beats(Best o) {
            if (o == null || units != o.units) {
                return o == null || units > o.units;
            }
            if (cost != o.cost) {
                return cost < o.cost;
            }
            for (int i = 0; i < shares.size(); i++) {
                if (!shares.get(i).equals(o.shares.get(i))) {
                    return shares.get(i) > o.shares.get(i);
                }
            }
            return false;
        }
    }

    private static Best best(Split s, int q, int without) {
        return bestFrom(s, 0, q, without, new HashMap<>(), new HashMap<>());
    }

    private static Best bestFrom(Split s, int i, int left, int without, Map<Integer, Best> memo,
            Map<Integer, Integer> costs) {
        if (i == s.venues.size()) {
            return new Best(0, 0, List.of());
        }
        Best known = memo.get(i * 1000 + left);
        if (known != null) {
            return known;
        }
        Venue v = s.venues.get(i);
        Best top = null;
        for (int n = 0; n <= left && n <= (i == without ? 0 : depth(s, v)); n += v.lot) {
            int m = n;
            Best b = bestFrom(s, i + 1, left - n, without, memo, costs);
            List<Integer> shares = new ArrayList<>(List.of(n));
            shares.addAll(b.shares);
            int c = costs.computeIfAbsent(i * 1000 + n, x -> cost(v, m));
            Best here = new Best(n + b.units, c + b.cost, shares);
            if (here.beats(top)) {
                top = here;
            }
        }
        memo.put(i * 1000 + left, top);
        return top;
    }

    private static List<Integer> marginals(Split s, int q) {
        List<Integer> list = new ArrayList<>();
        for (Venue v : s.venues) {
            int f = switch (v.kind) {
                case "flat" -> 0;
                case "tiers" -> Math.min(v.fee, half(v.fee));
                default -> v.fee;
            };
            unitPrices(v, s.limit).forEach(p -> list.add(p + f));
        }
        list.sort(null);
        return list.subList(0, Math.min(q, list.size()));
    }

    private static int sum(List<Integer> list) {
        return list.stream().mapToInt(x -> x).sum();
    }

    private static int[] greedyShares(Split s, int q) {
        int[] x = new int[s.venues.size()];
        while (true) {
            int pick = -1;
            long up = 0;
            long down = 1;
            for (int i = 0; i < x.length; i++) {
                Venue v = s.venues.get(i);
                if (Arrays.stream(x).sum() + v.lot > q || x[i] + v.lot > depth(s, v)) {
                    continue;
                }
                long more = cost(v, x[i] + v.lot) - cost(v, x[i]);
                if (pick < 0 || more * down < up * v.lot) {
                    pick = i;
                    up = more;
                    down = v.lot;
                }
            }
            if (pick < 0) {
                return x;
            }
            x[pick] += s.venues.get(pick).lot;
        }
    }

    private static int fewest(Split s, int q) {
        int units = best(s, q, -1).units;
        int least = 9;
        for (int set = 0; set < 1 << s.venues.size(); set++) {
            TreeSet<Integer> sums = new TreeSet<>(List.of(0));
            for (int i = 0; i < s.venues.size(); i++) {
                if ((set >> i & 1) == 1) {
                    TreeSet<Integer> more = new TreeSet<>();
                    for (int n = 0; n <= Math.min(q, depth(s, s.venues.get(i))); n += s.venues.get(i).lot) {
                        for (int x : sums) {
                            more.add(x + n);
                        }
                    }
                    sums = more;
                }
            }
            if (sums.contains(units)) {
                least = Math.min(least, Integer.bitCount(set));
            }
        }
        return least;
    }

    private static int planUnits(Split s) {
        return s.venues.stream().mapToInt(v -> v.plan).sum();
    }

    private static int planCost(Split s) {
        return s.venues.stream().mapToInt(v -> cost(v, v.plan)).sum();
    }

    private static boolean planFits(Split s) {
        return planUnits(s) <= s.order && s.venues.stream().allMatch(v -> v.plan <= depth(s, v));
    }

    // ---- the run

    private static boolean idle(Split s) {
        return s.venues.stream().allMatch(v -> v.part == null);
    }

    private static int toCome(Split s) {
        return (int) s.events.stream().filter(e -> e.time > s.time).count();
    }

    private static boolean over(Split s) {
        return idle(s) && (s.rest == 0 || toCome(s) == 0 && best(s, s.rest, -1).units == 0);
    }

    private static int round(Split s) {
        if (!idle(s) || s.rest == 0) {
            return 0;
        }
        Best b = best(s, s.rest, -1);
        if (b.units == 0) {
            return 0;
        }
        boolean byPlan = s.rounds == 0 && planUnits(s) > 0 && planFits(s);
        s.rounds++;
        int parts = 0;
        for (int i = 0; i < s.venues.size(); i++) {
            Venue v = s.venues.get(i);
            int n = byPlan ? v.plan : b.shares.get(i);
            if (n > 0) {
                Part p = new Part();
                p.units = n;
                p.hope = cost(v, n);
                p.cap = unitPrices(v, s.limit).get(n - 1);
                p.due = s.time + v.delay;
                v.part = p;
                parts++;
            }
        }
        return parts;
    }

    private static void tick(Split s) {
        s.time++;
        for (Event e : s.events) {
            if (e.time == s.time) {
                s.venues.get(e.venue).levels.get(e.level).size = e.size;
            }
        }
        for (int i = 0; i < s.venues.size(); i++) {
            if (s.venues.get(i).part != null) {
                pass(s, i, s.venues.get(i), s.venues.get(i).part);
            }
        }
        round(s);
    }

    private static void pass(Split s, int i, Venue v, Part p) {
        if (p.state.equals("way") && s.time == p.due) {
            p.state = "rests";
            p.due = s.time + s.life;
        }
        if (p.state.equals("rests")) {
            int n = Math.min(p.units - p.bought, unitPrices(v, p.cap).size() / v.lot * v.lot);
            for (int j = 0; j < n; j++) {
                Level l = v.levels.stream().filter(x -> x.size > 0).findFirst().get();
                l.size--;
                p.bought++;
                p.spent += l.price;
                s.spent += l.price;
                Pair pair = new Pair(i, l.price);
                if (!s.ledger.contains(pair)) {
                    s.ledger.add(pair);
                }
                s.units.merge(pair, 1, Integer::sum);
            }
            if (p.bought == p.units || p.call == s.time || p.due == s.time) {
                p.spent += charge(v, p.bought);
                s.spent += charge(v, p.bought);
                s.slip += p.spent - (int) Math.floor((double) p.hope * p.bought / p.units);
                p.state = "answers";
                p.due = s.time + v.delay;
            }
        } else if (p.state.equals("answers") && s.time == p.due) {
            s.rest -= p.bought;
            v.part = null;
        }
    }

    private static int tell(Split s, int what) {
        return switch (what) {
            case 0 -> s.time;
            case 1 -> s.rest;
            case 2 -> s.units.values().stream().mapToInt(x -> x).sum();
            case 3 -> s.spent;
            case 4 -> s.slip;
            case 5 -> s.rounds;
            case 6 -> over(s) ? 1 : 0;
            default -> toCome(s);
        };
    }

    // ---- the face

    private int refuse(int number, int answer) {
        trouble = number;
        return answer;
    }

    private boolean noVenue(int v) {
        return s == null || v < 0 || v >= s.venues.size();
    }

    private boolean noLevel(int v, int k) {
        return noVenue(v) || k < 0 || k >= s.venues.get(v).levels.size();
    }

    private static boolean out(int x, int low, int high) {
        return x < low || x > high;
    }

    int feed(int a, int b, int c, int d, int e) {
        if (tape.length() + 20 > 900) {
            return -1;
        }
        StringBuilder t = new StringBuilder(tape);
        for (int x : new int[] {a, b, c, d, e}) {
            for (int i = 3; i >= 0; i--) {
                t.append((char) (x >> 8 * i & 255));
            }
        }
        tape = t.toString();
        return tape.length();
    }

    int split(int n) {
        trouble = 0;
        if (out(n, 0, tape.length())) {
            return refuse(2, -1);
        }
        String text = tape.substring(0, n);
        tape = "";
        try {
            s = read(text);
            kept = null;
            fault = 0;
            return s.venues.size();
        } catch (Fault f) {
            fault = f.number;
            place = f.place;
            return refuse(4, -1);
        }
    }

    int fault() {
        return fault;
    }

    int where() {
        return trouble == 4 ? place : -1;
    }

    int about(int what) {
        trouble = 0;
        if (s == null || out(what, 0, 4)) {
            return refuse(1, -1);
        }
        return new int[] {s.order, s.limit, s.life, s.venues.size(), s.events.size()}[what];
    }

    int venue(int v, int what) {
        trouble = 0;
        if (noVenue(v) || out(what, 0, 6)) {
            return refuse(1, MIN);
        }
        Venue w = s.venues.get(v);
        int kind = List.of("plain", "tiers", "flat").indexOf(w.kind);
        return new int[] {kind, w.lot, w.fee, w.least, w.delay, w.levels.size(), depth(s, w)}[what];
    }

    int level(int v, int k, int what) {
        trouble = 0;
        if (noLevel(v, k) || out(what, 0, 1)) {
            return refuse(1, -1);
        }
        Level l = s.venues.get(v).levels.get(k);
        return what == 0 ? l.price : l.size;
    }

    int charge(int v, int n) {
        trouble = 0;
        if (noVenue(v)) {
            return refuse(1, MIN);
        }
        return out(n, 0, 120) ? refuse(2, MIN) : charge(s.venues.get(v), n);
    }

    int cost(int v, int n) {
        trouble = 0;
        if (noVenue(v)) {
            return refuse(1, MIN);
        }
        Venue w = s.venues.get(v);
        return out(n, 0, Math.min(120, depth(s, w))) || n % w.lot != 0 ? refuse(2, MIN) : cost(w, n);
    }

    int under(int v, int p) {
        trouble = 0;
        if (noVenue(v)) {
            return refuse(1, -1);
        }
        return out(p, 1, 999) ? refuse(2, -1) : unitPrices(s.venues.get(v), p).size();
    }

    /** The trouble of the calls about a split of q. */
    private boolean bad(int q, boolean none) {
        trouble = s == null || none ? 1 : out(q, 1, 120) ? 2 : 0;
        return trouble != 0;
    }

    int units(int q) {
        return bad(q, false) ? -1 : best(s, q, -1).units;
    }

    int best(int q) {
        return bad(q, false) ? MIN : best(s, q, -1).cost;
    }

    int share(int q, int v) {
        return bad(q, noVenue(v)) ? -1 : best(s, q, -1).shares.get(v);
    }

    int bound(int q) {
        return bad(q, false) ? MIN : sum(marginals(s, q));
    }

    int margin(int q) {
        if (bad(q, false)) {
            return MIN;
        }
        List<Integer> list = marginals(s, q);
        return list.isEmpty() ? MIN : list.get(list.size() - 1);
    }

    int gap(int q) {
        if (bad(q, false)) {
            return -1;
        }
        Best b = best(s, q, -1);
        return b.cost - sum(marginals(s, b.units));
    }

    int greedy(int q, int what) {
        if (bad(q, out(what, 0, 2))) {
            return MIN;
        }
        int[] x = greedyShares(s, q);
        int cost = 0;
        int bits = 0;
        for (int i = 0; i < x.length; i++) {
            cost += cost(s.venues.get(i), x[i]);
            bits += x[i] > 0 ? 1 << i : 0;
        }
        return what == 0 ? cost : what == 1 ? Arrays.stream(x).sum() : bits;
    }

    int worth(int q, int v) {
        if (bad(q, noVenue(v))) {
            return -1;
        }
        Best with = best(s, q, -1);
        Best without = best(s, q, v);
        return without.units < with.units ? -2 : without.cost - with.cost;
    }

    int fewest(int q) {
        return bad(q, false) ? -1 : fewest(s, q);
    }

    int plan(int v, int n) {
        trouble = 0;
        if (noVenue(v)) {
            return refuse(1, -1);
        }
        Venue w = s.venues.get(v);
        if (out(n, 0, depth(s, w)) || n % w.lot != 0 || planUnits(s) - w.plan + n > s.order) {
            return refuse(2, -1);
        }
        if (s.begun) {
            return refuse(5, -1);
        }
        int was = w.plan;
        w.plan = n;
        return was;
    }

    int planned(int what) {
        trouble = 0;
        if (s == null || out(what, 0, 2)) {
            return refuse(1, MIN);
        }
        if (!planFits(s)) {
            return refuse(5, MIN);
        }
        return what == 0 ? planUnits(s) : what == 1 ? planCost(s)
            : planCost(s) - best(s, planUnits(s), -1).cost;
    }

    int move() {
        trouble = 0;
        if (s == null) {
            return refuse(1, -1);
        }
        if (!planFits(s)) {
            return refuse(5, -1);
        }
        int least = planCost(s);
        int found = -2;
        for (int i = 0; i < 55; i++) {
            if (i / 10 == i % 10 || noVenue(i / 10) || noVenue(i % 10)) {
                continue;
            }
            Split t = s.copy();
            Venue from = t.venues.get(i / 10);
            Venue to = t.venues.get(i % 10);
            int n = 1;
            while (n % from.lot != 0 || n % to.lot != 0) {
                n++;
            }
            from.plan -= n;
            to.plan += n;
            if (from.plan >= 0 && to.plan <= depth(t, to) && planCost(t) < least) {
                least = planCost(t);
                found = i;
            }
        }
        return found;
    }

    int now(int what) {
        trouble = s == null || out(what, 0, 7) ? 1 : !s.begun ? 5 : 0;
        return trouble != 0 ? MIN : tell(s, what);
    }

    int part(int v, int what) {
        trouble = noVenue(v) || out(what, 0, 6) ? 1 : !s.begun ? 5 : 0;
        if (trouble != 0) {
            return MIN;
        }
        Part p = s.venues.get(v).part;
        if (p == null) {
            return what < 5 ? 0 : -2;
        }
        int how = 1 + List.of("way", "rests", "answers").indexOf(p.state);
        int call = p.call > s.time ? p.call : -2;
        return new int[] {how, p.units, p.bought, p.hope, p.cap, p.due, call}[what];
    }

    int entries() {
        trouble = s == null ? 1 : !s.begun ? 5 : 0;
        return trouble != 0 ? -1 : s.ledger.size();
    }

    int entry(int i, int what) {
        trouble = s == null || out(i, 0, s.ledger.size() - 1) || out(what, 0, 2) ? 1 : !s.begun ? 5 : 0;
        if (trouble != 0) {
            return -1;
        }
        Pair p = s.ledger.get(i);
        return what == 0 ? p.venue : what == 1 ? p.price : s.units.get(p);
    }

    int bought(int v, int price) {
        trouble = noVenue(v) ? 1 : !s.begun ? 5 : 0;
        return trouble != 0 ? -1 : s.units.getOrDefault(new Pair(v, price), 0);
    }

    int will(int what) {
        trouble = s == null || out(what, 0, 6) ? 1 : !s.begun ? 5 : 0;
        if (trouble != 0) {
            return MIN;
        }
        Split t = s.copy();
        for (int i = 0; i < 400 && !over(t); i++) {
            tick(t);
        }
        return tell(t, what);
    }

    int adopt(int q) {
        trouble = s == null ? 1 : out(q, 1, s.order) ? 2 : s.begun ? 5 : 0;
        if (trouble != 0) {
            return -1;
        }
        Best b = best(s, q, -1);
        for (int i = 0; i < s.venues.size(); i++) {
            s.venues.get(i).plan = b.shares.get(i);
        }
        return b.units;
    }

    int fee(int v, int f) {
        trouble = noVenue(v) ? 1 : out(f, -9, 9) ? 2 : s.begun ? 5 : 0;
        if (trouble != 0) {
            return MIN;
        }
        int was = s.venues.get(v).fee;
        s.venues.get(v).fee = f;
        return was;
    }

    int resize(int v, int k, int n) {
        trouble = noLevel(v, k) ? 1 : out(n, 0, 99) ? 2 : 0;
        if (trouble != 0) {
            return -1;
        }
        Level l = s.venues.get(v).levels.get(k);
        int was = l.size;
        l.size = n;
        return was;
    }

    int order(int q) {
        trouble = s == null ? 1 : out(q, 1, 120) ? 2 : s.begun ? 5 : 0;
        if (trouble != 0) {
            return -1;
        }
        int was = s.order;
        s.order = q;
        return was;
    }

    int begin() {
        trouble = s == null ? 1 : s.begun ? 5 : 0;
        if (trouble != 0) {
            return -1;
        }
        s.begun = true;
        s.rest = s.order;
        return round(s);
    }

    int ticks(int n) {
        trouble = s == null ? 1 : out(n, 1, 200) ? 2 : !s.begun ? 5 : 0;
        if (trouble != 0) {
            return -1;
        }
        int was = tell(s, 2);
        for (int i = 0; i < n; i++) {
            tick(s);
        }
        return tell(s, 2) - was;
    }

    int call(int v) {
        trouble = noVenue(v) ? 1 : 0;
        if (trouble == 0) {
            Part p = s.venues.get(v).part;
            trouble = p == null || p.state.equals("answers") || p.call != -2 ? 5 : 0;
        }
        if (trouble != 0) {
            return -1;
        }
        s.venues.get(v).part.call = s.time + s.venues.get(v).delay;
        return s.venues.get(v).part.call;
    }

    boolean keep() {
        trouble = s == null ? 1 : 0;
        kept = s == null ? null : s.copy();
        return s != null;
    }

    boolean back() {
        trouble = kept == null ? 1 : 0;
        s = kept == null ? s : kept.copy();
        return kept != null;
    }

    int dry(int i) {
        List<Integer> list = new ArrayList<>();
        for (int v = 0; s != null && v < s.venues.size(); v++) {
            if (depth(s, s.venues.get(v)) < s.venues.get(v).lot) {
                list.add(v);
            }
        }
        if (i < 0 || i >= list.size()) {
            throw new NoSuchElementException();
        }
        return list.get(i);
    }

    int size(int what) {
        return switch (what) {
            case 0 -> tape.length();
            case 1 -> kept != null ? 1 : 0;
            case 2 -> s != null && s.begun ? 1 : 0;
            default -> -1;
        };
    }

    int trouble() {
        return trouble;
    }
}

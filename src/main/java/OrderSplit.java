import java.util.NoSuchElementException;

/**
 * One large order split over venues: the cheapest split of it by the depths as they are, a plan by
 * hand, and the run of the order, round by round. The document's words in capitals (SPLIT, PART,
 * ROUND ..) are used in the comments with the document's meaning.
 *
 * Every row is made in the constructor and used again, so that no call makes an object.
 */
public final class OrderSplit {
    /** There is none; refused. */
    public static final int NONE = -1;

    /** Refused, where NONE could be an answer. */
    private static final int REFUSED = Integer.MIN_VALUE;
    /** There is none, told by a call that was not refused. */
    private static final int NOTHING = -2;

    private static final int NO_SUCH = 1;
    private static final int BAD_NUMBER = 2;
    private static final int FAULTY = 4;
    private static final int NOT_SO = 5;

    private static final int TAPE_ROOM = 900;
    private static final int FED_BYTES = 20;
    private static final int MOST_UNITS = 120;
    private static final int MOST_PRICE = 999;
    private static final int MOST_SIZE = 99;
    private static final int MOST_FEE = 9;
    private static final int MOST_VENUES = 5;
    private static final int MOST_LEVELS = 6;
    private static final int MOST_EVENTS = 10;
    private static final int MOST_TICKS = 200;
    private static final int MOST_TICKS_AHEAD = 400;

    private static final int PLAIN = 0;
    private static final int TIERS = 1;
    private static final int FLAT = 2;
    /** So many units of a tiers VENUE bear its whole FEE. */
    private static final int FIRST_TIER = 20;

    private static final int NO_PART = 0;
    private static final int COMING = 1;
    private static final int RESTING = 2;
    private static final int ANSWERING = 3;

    private final Tape tape = new Tape();
    private final Chooser chooser = new Chooser();
    private final Bounds bounds = new Bounds();

    /** Changes places with the SPLIT when a text has been read whole, so that a FAULT leaves it. */
    private Market spareMarket = new Market();
    private Market market = new Market();
    private final Market keptMarket = new Market();
    private final Market aheadMarket = new Market();
    private final Run run = new Run();
    private final Run keptRun = new Run();
    private final Run aheadRun = new Run();

    private boolean present = false;
    private boolean kept = false;
    private int latestTrouble = 0;
    private int latestFault = 0;

    public OrderSplit() {
    }

    // ---- the split

    public int feed(int a, int b, int c, int d, int e) {
        if (tape.length > TAPE_ROOM - FED_BYTES) {
            return NONE;
        }
        tape.put(a);
        tape.put(b);
        tape.put(c);
        tape.put(d);
        tape.put(e);
        return tape.length;
    }

    public int split(int n) {
        if (n < 0 || n > tape.length) {
            latestTrouble = BAD_NUMBER;
            return NONE;
        }
        boolean whole = tape.readInto(spareMarket, n);
        tape.length = 0;
        latestFault = tape.faultNumber;
        if (!whole) {
            latestTrouble = FAULTY;
            return NONE;
        }
        Market read = spareMarket;
        spareMarket = market;
        market = read;
        run.clear();
        present = true;
        kept = false;
        latestTrouble = 0;
        return market.venues;
    }

    public int fault() {
        return latestFault;
    }

    public int where() {
        return latestTrouble == FAULTY ? tape.faultPlace : NONE;
    }

    public int about(int what) {
        if (!granted(within(what, 0, 4), true, true)) {
            return NONE;
        }
        switch (what) {
            case 0: return market.wanted;
            case 1: return market.limit;
            case 2: return market.life;
            case 3: return market.venues;
            default: return market.events;
        }
    }

    // ---- venues

    public int venue(int v, int what) {
        if (!granted(isVenue(v) && within(what, 0, 6), true, true)) {
            return REFUSED;
        }
        switch (what) {
            case 0: return market.kinds[v];
            case 1: return market.lots[v];
            case 2: return market.fees[v];
            case 3: return market.leasts[v];
            case 4: return market.delays[v];
            case 5: return market.levels[v];
            default: return market.depthOf(v);
        }
    }

    public int level(int v, int k, int what) {
        if (!granted(isLevel(v, k) && within(what, 0, 1), true, true)) {
            return NONE;
        }
        int at = slot(v, k);
        return what == 0 ? market.prices[at] : market.sizes[at];
    }

    public int charge(int v, int n) {
        if (!granted(isVenue(v), within(n, 0, MOST_UNITS), true)) {
            return REFUSED;
        }
        return market.chargeOf(v, n);
    }

    public int cost(int v, int n) {
        if (!granted(isVenue(v), isVenue(v) && market.canBeHad(v, n), true)) {
            return REFUSED;
        }
        return market.costOf(v, n);
    }

    public int under(int v, int p) {
        if (!granted(isVenue(v), within(p, 1, MOST_PRICE), true)) {
            return NONE;
        }
        return market.unitsUpTo(v, p);
    }

    // ---- splits of q by DEPTHS as they are

    public int units(int q) {
        if (!grantedAmount(true, q)) {
            return NONE;
        }
        chooser.choose(market, q, NONE);
        return chooser.chosenUnits;
    }

    public int best(int q) {
        if (!grantedAmount(true, q)) {
            return REFUSED;
        }
        chooser.choose(market, q, NONE);
        return chooser.chosenCost;
    }

    public int share(int q, int v) {
        if (!grantedAmount(isVenue(v), q)) {
            return NONE;
        }
        chooser.choose(market, q, NONE);
        return chooser.shares[v];
    }

    public int bound(int q) {
        if (!grantedAmount(true, q)) {
            return REFUSED;
        }
        bounds.measure(market, q);
        return bounds.total;
    }

    public int margin(int q) {
        if (!grantedAmount(true, q)) {
            return REFUSED;
        }
        bounds.measure(market, q);
        return bounds.last;
    }

    public int gap(int q) {
        if (!grantedAmount(true, q)) {
            return NONE;
        }
        chooser.choose(market, q, NONE);
        bounds.measure(market, chooser.chosenUnits);
        return chooser.chosenCost - bounds.total;
    }

    public int greedy(int q, int what) {
        if (!grantedAmount(within(what, 0, 2), q)) {
            return REFUSED;
        }
        chooser.chooseGreedily(market, q);
        switch (what) {
            case 0: return chooser.chosenCost;
            case 1: return chooser.chosenUnits;
            default: return chooser.venuesUsed(market);
        }
    }

    public int worth(int q, int v) {
        if (!grantedAmount(isVenue(v), q)) {
            return NONE;
        }
        chooser.choose(market, q, NONE);
        int unitsWith = chooser.chosenUnits;
        int costWith = chooser.chosenCost;
        chooser.choose(market, q, v);
        return chooser.chosenUnits < unitsWith ? NOTHING : chooser.chosenCost - costWith;
    }

    public int fewest(int q) {
        if (!grantedAmount(true, q)) {
            return NONE;
        }
        return chooser.fewestVenues(market, q);
    }

    // ---- the plan

    public int plan(int v, int n) {
        if (!granted(isVenue(v), isVenue(v) && market.canBePlanned(v, n), !run.begun)) {
            return NONE;
        }
        int before = market.plans[v];
        market.plans[v] = n;
        return before;
    }

    public int planned(int what) {
        if (!granted(within(what, 0, 2), true, market.planStands())) {
            return REFUSED;
        }
        if (what == 0) {
            return market.planUnits();
        }
        if (what == 1) {
            return market.planCost();
        }
        chooser.choose(market, market.planUnits(), NONE);
        return market.planCost() - chooser.chosenCost;
    }

    public int move() {
        if (!granted(true, true, market.planStands())) {
            return NONE;
        }
        int found = NOTHING;
        int cheapest = 0;
        for (int from = 0; from < market.venues; from++) {
            for (int to = 0; to < market.venues; to++) {
                int dearer = market.moveCost(from, to);
                if (dearer < cheapest) {
                    cheapest = dearer;
                    found = 10 * from + to;
                }
            }
        }
        return found;
    }

    // ---- the run as it is

    public int now(int what) {
        if (!granted(within(what, 0, 7), true, run.begun)) {
            return REFUSED;
        }
        return run.tell(market, what);
    }

    public int part(int v, int what) {
        if (!granted(isVenue(v) && within(what, 0, 6), true, run.begun)) {
            return REFUSED;
        }
        return run.tellPart(v, what);
    }

    public int entries() {
        if (!granted(true, true, run.begun)) {
            return NONE;
        }
        return run.ledger.count;
    }

    public int entry(int i, int what) {
        if (!granted(within(i, 0, run.ledger.count - 1) && within(what, 0, 2), true, run.begun)) {
            return NONE;
        }
        switch (what) {
            case 0: return run.ledger.venueRow[i];
            case 1: return run.ledger.priceRow[i];
            default: return run.ledger.unitRow[i];
        }
    }

    public int bought(int v, int price) {
        if (!granted(isVenue(v), true, run.begun)) {
            return NONE;
        }
        return run.ledger.unitsAt(v, price);
    }

    public int will(int what) {
        if (!granted(within(what, 0, 6), true, run.begun)) {
            return REFUSED;
        }
        aheadMarket.copyFrom(market);
        aheadRun.copyFrom(run);
        for (int i = 0; i < MOST_TICKS_AHEAD && !aheadRun.isOver(aheadMarket); i++) {
            aheadRun.tick(aheadMarket, chooser);
        }
        return aheadRun.tell(aheadMarket, what);
    }

    // ---- acts

    public int adopt(int q) {
        if (!granted(true, within(q, 1, market.wanted), !run.begun)) {
            return NONE;
        }
        chooser.choose(market, q, NONE);
        for (int v = 0; v < market.venues; v++) {
            market.plans[v] = chooser.shares[v];
        }
        return chooser.chosenUnits;
    }

    public int fee(int v, int f) {
        if (!granted(isVenue(v), within(f, -MOST_FEE, MOST_FEE), !run.begun)) {
            return REFUSED;
        }
        int before = market.fees[v];
        market.fees[v] = f;
        return before;
    }

    public int resize(int v, int k, int n) {
        if (!granted(isLevel(v, k), within(n, 0, MOST_SIZE), true)) {
            return NONE;
        }
        int at = slot(v, k);
        int before = market.sizes[at];
        market.sizes[at] = n;
        return before;
    }

    public int order(int q) {
        if (!granted(true, within(q, 1, MOST_UNITS), !run.begun)) {
            return NONE;
        }
        int before = market.wanted;
        market.wanted = q;
        return before;
    }

    public int begin() {
        if (!granted(true, true, !run.begun)) {
            return NONE;
        }
        run.begun = true;
        run.rest = market.wanted;
        return run.startRound(market, chooser);
    }

    public int ticks(int n) {
        if (!granted(true, within(n, 1, MOST_TICKS), run.begun)) {
            return NONE;
        }
        int before = run.boughtUnits;
        for (int i = 0; i < n; i++) {
            run.tick(market, chooser);
        }
        return run.boughtUnits - before;
    }

    public int call(int v) {
        if (!granted(isVenue(v), true, isVenue(v) && run.canBeCalled(v))) {
            return NONE;
        }
        run.calls[v] = run.time + market.delays[v];
        return run.calls[v];
    }

    public boolean keep() {
        if (!granted(true, true, true)) {
            return false;
        }
        keptMarket.copyFrom(market);
        keptRun.copyFrom(run);
        kept = true;
        return true;
    }

    public boolean back() {
        if (!granted(kept, true, true)) {
            return false;
        }
        market.copyFrom(keptMarket);
        run.copyFrom(keptRun);
        return true;
    }

    // ---- what is told

    public int dry(int i) throws NoSuchElementException {
        int seen = 0;
        for (int v = 0; v < market.venues; v++) {
            if (market.depthOf(v) < market.lots[v]) {
                if (seen == i) {
                    return v;
                }
                seen++;
            }
        }
        throw new NoSuchElementException();
    }

    public int size(int what) {
        switch (what) {
            case 0: return tape.length;
            case 1: return kept ? 1 : 0;
            case 2: return run.begun ? 1 : 0;
            default: return NONE;
        }
    }

    public int trouble() {
        return latestTrouble;
    }

    // ---- refusals

    /** Every call tells its refusals in this order, so they are met here in one place. */
    private boolean granted(boolean such, boolean number, boolean so) {
        if (!present || !such) {
            latestTrouble = NO_SUCH;
        } else if (!number) {
            latestTrouble = BAD_NUMBER;
        } else if (!so) {
            latestTrouble = NOT_SO;
        } else {
            latestTrouble = 0;
        }
        return latestTrouble == 0;
    }

    private boolean grantedAmount(boolean such, int q) {
        return granted(such, within(q, 1, MOST_UNITS), true);
    }

    private boolean isVenue(int v) {
        return v >= 0 && v < market.venues;
    }

    private boolean isLevel(int v, int k) {
        return isVenue(v) && k >= 0 && k < market.levels[v];
    }

    private static boolean within(int x, int low, int high) {
        return x >= low && x <= high;
    }

    /** Where the k-th LEVEL of a VENUE stands in the rows of all LEVELS. */
    private static int slot(int v, int k) {
        return v * MOST_LEVELS + k;
    }

    /** The SPLIT as it is told and changed, with the PLAN in it; SIZES are those of now. */
    private static final class Market {
        int wanted = 0;
        int limit = 0;
        int life = 0;
        int venues = 0;
        int events = 0;
        final int[] kinds = new int[MOST_VENUES];
        final int[] lots = new int[MOST_VENUES];
        final int[] fees = new int[MOST_VENUES];
        final int[] leasts = new int[MOST_VENUES];
        final int[] delays = new int[MOST_VENUES];
        final int[] levels = new int[MOST_VENUES];
        final int[] plans = new int[MOST_VENUES];
        final int[] prices = new int[MOST_VENUES * MOST_LEVELS];
        final int[] sizes = new int[MOST_VENUES * MOST_LEVELS];
        final int[] eventTimes = new int[MOST_EVENTS];
        final int[] eventSlots = new int[MOST_EVENTS];
        final int[] eventSizes = new int[MOST_EVENTS];

        /** The other rows are written as a text is read, ahead of any use of them. */
        void clear() {
            wanted = 0;
            limit = 0;
            life = 0;
            venues = 0;
            events = 0;
            for (int v = 0; v < MOST_VENUES; v++) {
                levels[v] = 0;
                plans[v] = 0;
            }
        }

        void copyFrom(Market other) {
            wanted = other.wanted;
            limit = other.limit;
            life = other.life;
            venues = other.venues;
            events = other.events;
            System.arraycopy(other.kinds, 0, kinds, 0, MOST_VENUES);
            System.arraycopy(other.lots, 0, lots, 0, MOST_VENUES);
            System.arraycopy(other.fees, 0, fees, 0, MOST_VENUES);
            System.arraycopy(other.leasts, 0, leasts, 0, MOST_VENUES);
            System.arraycopy(other.delays, 0, delays, 0, MOST_VENUES);
            System.arraycopy(other.levels, 0, levels, 0, MOST_VENUES);
            System.arraycopy(other.plans, 0, plans, 0, MOST_VENUES);
            System.arraycopy(other.prices, 0, prices, 0, MOST_VENUES * MOST_LEVELS);
            System.arraycopy(other.sizes, 0, sizes, 0, MOST_VENUES * MOST_LEVELS);
            System.arraycopy(other.eventTimes, 0, eventTimes, 0, MOST_EVENTS);
            System.arraycopy(other.eventSlots, 0, eventSlots, 0, MOST_EVENTS);
            System.arraycopy(other.eventSizes, 0, eventSizes, 0, MOST_EVENTS);
        }

        /** At least 1, for it divides and it is the step of loops. */
        int lotOf(int v) {
            return lots[v] > 1 ? lots[v] : 1;
        }

        int unitsUpTo(int v, int price) {
            int sum = 0;
            int first = v * MOST_LEVELS;
            for (int at = first; at < first + levels[v]; at++) {
                if (prices[at] <= price) {
                    sum += sizes[at];
                }
            }
            return sum;
        }

        int depthOf(int v) {
            return unitsUpTo(v, limit);
        }

        /** The most units in whole LOTS, q at most, that a VENUE has. */
        int wholeLots(int v, int q) {
            int depth = unitsUpTo(v, limit);
            int most = depth < q ? depth : q;
            return most - most % lotOf(v);
        }

        /** THE BEST of q has units just if one LOT can be had somewhere. */
        boolean hasLotWithin(int q) {
            for (int v = 0; v < venues; v++) {
                if (wholeLots(v, q) > 0) {
                    return true;
                }
            }
            return false;
        }

        int chargeOf(int v, int n) {
            if (n <= 0) {
                return 0;
            }
            if (kinds[v] == FLAT) {
                return leasts[v];
            }
            int sum = fees[v] * n;
            if (kinds[v] == TIERS && n > FIRST_TIER) {
                sum = fees[v] * FIRST_TIER + (fees[v] >> 1) * (n - FIRST_TIER);
            }
            return fees[v] >= 0 && sum < leasts[v] ? leasts[v] : sum;
        }

        /** What a unit costs at least beyond its PRICE, however many are bought. */
        int leastUnitFee(int v) {
            if (kinds[v] == FLAT) {
                return 0;
            }
            int half = fees[v] >> 1;
            return kinds[v] == TIERS && half < fees[v] ? half : fees[v];
        }

        boolean canBeHad(int v, int n) {
            return n >= 0 && n <= MOST_UNITS && n % lotOf(v) == 0 && n <= depthOf(v);
        }

        int costOf(int v, int n) {
            int sum = chargeOf(v, n);
            int left = n;
            int first = v * MOST_LEVELS;
            for (int at = first; at < first + levels[v] && left > 0; at++) {
                int taken = sizes[at] < left ? sizes[at] : left;
                sum += taken * prices[at];
                left -= taken;
            }
            return sum;
        }

        /** The greatest PRICE that n units need. */
        int capOf(int v, int n) {
            int cap = 0;
            int left = n;
            int first = v * MOST_LEVELS;
            for (int at = first; at < first + levels[v] && left > 0; at++) {
                if (sizes[at] > 0) {
                    cap = prices[at];
                    left -= sizes[at];
                }
            }
            return cap;
        }

        int planUnits() {
            int sum = 0;
            for (int v = 0; v < venues; v++) {
                sum += plans[v];
            }
            return sum;
        }

        int planCost() {
            int sum = 0;
            for (int v = 0; v < venues; v++) {
                sum += costOf(v, plans[v]);
            }
            return sum;
        }

        boolean canBePlanned(int v, int n) {
            return canBeHad(v, n) && planUnits() - plans[v] + n <= wanted;
        }

        /** DEPTHS and ORDER may have changed since the PLAN was made. */
        boolean planStands() {
            for (int v = 0; v < venues; v++) {
                if (plans[v] > depthOf(v)) {
                    return false;
                }
            }
            return planUnits() <= wanted;
        }

        /** By how much a MOVE makes the PLAN dearer; 0 where there is no such MOVE. */
        int moveCost(int from, int to) {
            if (from == to) {
                return 0;
            }
            int moved = leastCommonMultiple(lotOf(from), lotOf(to));
            if (plans[from] < moved || plans[to] + moved > depthOf(to)) {
                return 0;
            }
            return costOf(from, plans[from] - moved) - costOf(from, plans[from])
                + costOf(to, plans[to] + moved) - costOf(to, plans[to]);
        }

        private static int leastCommonMultiple(int a, int b) {
            if (b <= 0) {
                return a;
            }
            for (int times = 1; times < b; times++) {
                if (a * times % b == 0) {
                    return a * times;
                }
            }
            return a * b;
        }
    }

    /** Makes THE BEST, GREEDY and the fewest VENUES; what it chose stands till it chooses again. */
    private static final class Chooser {
        private static final int WIDTH = MOST_UNITS + 1;
        /** More than any SPLIT costs, or has VENUES: it can't be had. */
        private static final int FAR = 1000000000;

        int chosenUnits = 0;
        int chosenCost = 0;
        final int[] shares = new int[MOST_VENUES];
        /** By VENUE the most units of it in whole LOTS. */
        private final int[] rooms = new int[MOST_VENUES];
        /** By VENUE and units what they COST there. */
        private final int[] costs = new int[MOST_VENUES * WIDTH];
        /** By VENUE and units the least that these units COST at it and those behind it. */
        private final int[] leastCosts = new int[(MOST_VENUES + 1) * WIDTH];
        private final int[] fewestRow = new int[WIDTH];

        /** THE BEST of q (0 .. 120), without one VENUE if that isn't NONE. */
        void choose(Market m, int q, int without) {
            int most = prepare(m, q, without);
            for (int u = 0; u <= most; u++) {
                leastCosts[m.venues * WIDTH + u] = u == 0 ? 0 : FAR;
            }
            for (int v = m.venues - 1; v >= 0; v--) {
                for (int u = 0; u <= most; u++) {
                    leastCosts[v * WIDTH + u] = leastCostFrom(v, u, m.lotOf(v));
                }
            }
            chosenUnits = mostUnits(leastCosts, most);
            chosenCost = leastCosts[chosenUnits];
            deal(m);
        }

        /** Sets rooms and costs for a SPLIT of q: no SPLIT has more units than this answers. */
        private int prepare(Market m, int q, int without) {
            int sum = 0;
            for (int v = 0; v < m.venues; v++) {
                rooms[v] = v == without ? 0 : m.wholeLots(v, q);
                sum += rooms[v];
                int lot = m.lotOf(v);
                for (int n = 0; n <= rooms[v]; n += lot) {
                    costs[v * WIDTH + n] = m.costOf(v, n);
                }
            }
            return sum < q ? sum : q;
        }

        private int leastCostFrom(int v, int u, int lot) {
            int least = FAR;
            int most = rooms[v] < u ? rooms[v] : u;
            for (int n = 0; n <= most; n += lot) {
                int behind = leastCosts[(v + 1) * WIDTH + u - n];
                if (behind < FAR && costs[v * WIDTH + n] + behind < least) {
                    least = costs[v * WIDTH + n] + behind;
                }
            }
            return least;
        }

        /** The most units, q at most, that can be had by the first row. */
        private static int mostUnits(int[] row, int q) {
            for (int u = q; u > 0; u--) {
                if (row[u] < FAR) {
                    return u;
                }
            }
            return 0;
        }

        /** Of SPLITS that COST alike the one with most units at the first VENUES. */
        private void deal(Market m) {
            int left = chosenUnits;
            for (int v = 0; v < m.venues; v++) {
                shares[v] = mostAtLeastCost(v, left, m.lotOf(v));
                left -= shares[v];
            }
        }

        private int mostAtLeastCost(int v, int left, int lot) {
            int found = 0;
            int most = rooms[v] < left ? rooms[v] : left;
            for (int n = 0; n <= most; n += lot) {
                int behind = leastCosts[(v + 1) * WIDTH + left - n];
                if (behind < FAR && costs[v * WIDTH + n] + behind == leastCosts[v * WIDTH + left]) {
                    found = n;
                }
            }
            return found;
        }

        void chooseGreedily(Market m, int q) {
            prepare(m, q, NONE);
            chosenUnits = 0;
            chosenCost = 0;
            for (int v = 0; v < m.venues; v++) {
                shares[v] = 0;
            }
            for (int i = 0; i < MOST_UNITS; i++) {
                int v = cheapestNextLot(m, q - chosenUnits);
                if (v == NONE) {
                    return;
                }
                chosenCost += nextLotCost(v, m.lotOf(v));
                chosenUnits += m.lotOf(v);
                shares[v] += m.lotOf(v);
            }
        }

        private int cheapestNextLot(Market m, int left) {
            int found = NONE;
            int foundCost = 0;
            int foundLot = 1;
            for (int v = 0; v < m.venues; v++) {
                int lot = m.lotOf(v);
                if (lot > left || shares[v] + lot > rooms[v]) {
                    continue;
                }
                int more = nextLotCost(v, lot);
                // as fractions: more / lot below foundCost / foundLot
                if (found == NONE || more * foundLot < foundCost * lot) {
                    found = v;
                    foundCost = more;
                    foundLot = lot;
                }
            }
            return found;
        }

        private int nextLotCost(int v, int lot) {
            int at = v * WIDTH + shares[v];
            return costs[at + lot] - costs[at];
        }

        /** VENUES with units, as bits. */
        int venuesUsed(Market m) {
            int bits = 0;
            for (int v = 0; v < m.venues; v++) {
                if (shares[v] > 0) {
                    bits |= 1 << v;
                }
            }
            return bits;
        }

        int fewestVenues(Market m, int q) {
            for (int u = 0; u <= q; u++) {
                fewestRow[u] = u == 0 ? 0 : FAR;
            }
            for (int v = 0; v < m.venues; v++) {
                int lot = m.lotOf(v);
                int room = m.wholeLots(v, q);
                // from the top, so that the row below still tells of the VENUES ahead alone
                for (int u = q; u > 0; u--) {
                    for (int n = lot; n <= room && n <= u; n += lot) {
                        if (fewestRow[u - n] + 1 < fewestRow[u]) {
                            fewestRow[u] = fewestRow[u - n] + 1;
                        }
                    }
                }
            }
            return fewestRow[mostUnits(fewestRow, q)];
        }
    }

    /** BOUND and MARGIN: the cheapest units of all DEPTHS, whole LOTS or not. */
    private static final class Bounds {
        int total = 0;
        /** The MARGIN. */
        int last = REFUSED;

        void measure(Market m, int q) {
            total = 0;
            last = REFUSED;
            int left = q;
            int marginal = REFUSED;
            for (int i = 0; i < MOST_VENUES * MOST_LEVELS && left > 0; i++) {
                int next = nextMarginal(m, marginal);
                int there = unitsAtMarginal(m, next);
                if (there == 0) {
                    return;
                }
                int taken = there < left ? there : left;
                total += taken * next;
                left -= taken;
                last = next;
                marginal = next;
            }
        }

        /** The least price with fee of any unit that is above the one given. */
        private static int nextMarginal(Market m, int above) {
            int least = Integer.MAX_VALUE;
            for (int v = 0; v < m.venues; v++) {
                for (int k = 0; k < m.levels[v]; k++) {
                    int marginal = m.prices[slot(v, k)] + m.leastUnitFee(v);
                    if (counts(m, v, k) && marginal > above && marginal < least) {
                        least = marginal;
                    }
                }
            }
            return least;
        }

        private static int unitsAtMarginal(Market m, int marginal) {
            int sum = 0;
            for (int v = 0; v < m.venues; v++) {
                for (int k = 0; k < m.levels[v]; k++) {
                    if (counts(m, v, k) && m.prices[slot(v, k)] + m.leastUnitFee(v) == marginal) {
                        sum += m.sizes[slot(v, k)];
                    }
                }
            }
            return sum;
        }

        private static boolean counts(Market m, int v, int k) {
            return m.prices[slot(v, k)] <= m.limit && m.sizes[slot(v, k)] > 0;
        }
    }

    /** THE RUN: its clock, its PARTS and what they bought. */
    private static final class Run {
        boolean begun = false;
        int time = 0;
        int rest = 0;
        int boughtUnits = 0;
        private int spent = 0;
        private int slipped = 0;
        private int rounds = 0;
        private int pastEvents = 0;
        private final int[] states = new int[MOST_VENUES];
        private final int[] sent = new int[MOST_VENUES];
        private final int[] got = new int[MOST_VENUES];
        private final int[] paid = new int[MOST_VENUES];
        private final int[] hopes = new int[MOST_VENUES];
        private final int[] caps = new int[MOST_VENUES];
        /** When a PART comes, or by LIFE ends, or its answer comes. */
        private final int[] dues = new int[MOST_VENUES];
        /** When a CALL comes or came to the PART; NOTHING without one. */
        final int[] calls = new int[MOST_VENUES];
        final Ledger ledger = new Ledger();

        void clear() {
            begun = false;
            time = 0;
            rest = 0;
            boughtUnits = 0;
            spent = 0;
            slipped = 0;
            rounds = 0;
            pastEvents = 0;
            for (int v = 0; v < MOST_VENUES; v++) {
                drop(v);
            }
            ledger.count = 0;
        }

        void copyFrom(Run other) {
            begun = other.begun;
            time = other.time;
            rest = other.rest;
            boughtUnits = other.boughtUnits;
            spent = other.spent;
            slipped = other.slipped;
            rounds = other.rounds;
            pastEvents = other.pastEvents;
            System.arraycopy(other.states, 0, states, 0, MOST_VENUES);
            System.arraycopy(other.sent, 0, sent, 0, MOST_VENUES);
            System.arraycopy(other.got, 0, got, 0, MOST_VENUES);
            System.arraycopy(other.paid, 0, paid, 0, MOST_VENUES);
            System.arraycopy(other.hopes, 0, hopes, 0, MOST_VENUES);
            System.arraycopy(other.caps, 0, caps, 0, MOST_VENUES);
            System.arraycopy(other.dues, 0, dues, 0, MOST_VENUES);
            System.arraycopy(other.calls, 0, calls, 0, MOST_VENUES);
            ledger.copyFrom(other.ledger);
        }

        private void drop(int v) {
            states[v] = NO_PART;
            sent[v] = 0;
            got[v] = 0;
            paid[v] = 0;
            hopes[v] = 0;
            caps[v] = 0;
            dues[v] = NOTHING;
            calls[v] = NOTHING;
        }

        private boolean nothingUnderWay(Market m) {
            for (int v = 0; v < m.venues; v++) {
                if (states[v] != NO_PART) {
                    return false;
                }
            }
            return true;
        }

        boolean isOver(Market m) {
            if (!begun || !nothingUnderWay(m)) {
                return false;
            }
            return rest == 0 || pastEvents == m.events && !m.hasLotWithin(rest);
        }

        /** Begins a ROUND, if it can: how many PARTS were sent. */
        int startRound(Market m, Chooser chooser) {
            if (!nothingUnderWay(m) || rest == 0 || !m.hasLotWithin(rest)) {
                return 0;
            }
            boolean byPlan = rounds == 0 && m.planUnits() > 0 && m.planStands();
            if (!byPlan) {
                chooser.choose(m, rest, NONE);
            }
            rounds++;
            int parts = 0;
            for (int v = 0; v < m.venues; v++) {
                int n = byPlan ? m.plans[v] : chooser.shares[v];
                if (n > 0) {
                    send(m, v, n);
                    parts++;
                }
            }
            return parts;
        }

        private void send(Market m, int v, int n) {
            drop(v);
            states[v] = COMING;
            sent[v] = n;
            hopes[v] = m.costOf(v, n);
            caps[v] = m.capOf(v, n);
            dues[v] = time + m.delays[v];
        }

        void tick(Market m, Chooser chooser) {
            time++;
            while (pastEvents < m.events && m.eventTimes[pastEvents] <= time) {
                m.sizes[m.eventSlots[pastEvents]] = m.eventSizes[pastEvents];
                pastEvents++;
            }
            for (int v = 0; v < m.venues; v++) {
                visit(m, v);
            }
            startRound(m, chooser);
        }

        private void visit(Market m, int v) {
            if (states[v] == COMING && dues[v] <= time) {
                states[v] = RESTING;
                dues[v] = time + m.life;
            }
            if (states[v] == RESTING) {
                buy(m, v);
                if (got[v] == sent[v] || calls[v] == time || dues[v] <= time) {
                    finish(m, v);
                }
            } else if (states[v] == ANSWERING && dues[v] <= time) {
                rest -= got[v];
                drop(v);
            }
        }

        private void buy(Market m, int v) {
            int there = m.unitsUpTo(v, caps[v]);
            int left = sent[v] - got[v];
            int take = there < left ? there : left;
            take -= take % m.lotOf(v);
            for (int k = 0; k < m.levels[v] && take > 0; k++) {
                int at = slot(v, k);
                int n = m.sizes[at] < take ? m.sizes[at] : take;
                if (n > 0) {
                    take -= n;
                    m.sizes[at] -= n;
                    got[v] += n;
                    boughtUnits += n;
                    paid[v] += n * m.prices[at];
                    spent += n * m.prices[at];
                    ledger.note(v, m.prices[at], n);
                }
            }
        }

        private void finish(Market m, int v) {
            int owed = m.chargeOf(v, got[v]);
            paid[v] += owed;
            spent += owed;
            if (sent[v] > 0) {
                slipped += paid[v] - Math.floorDiv(hopes[v] * got[v], sent[v]);
            }
            states[v] = ANSWERING;
            dues[v] = time + m.delays[v];
        }

        boolean canBeCalled(int v) {
            return begun && (states[v] == COMING || states[v] == RESTING) && calls[v] <= time;
        }

        int tell(Market m, int what) {
            switch (what) {
                case 0: return time;
                case 1: return rest;
                case 2: return boughtUnits;
                case 3: return spent;
                case 4: return slipped;
                case 5: return rounds;
                case 6: return isOver(m) ? 1 : 0;
                default: return m.events - pastEvents;
            }
        }

        int tellPart(int v, int what) {
            switch (what) {
                case 0: return states[v];
                case 1: return sent[v];
                case 2: return got[v];
                case 3: return hopes[v];
                case 4: return caps[v];
                case 5: return dues[v];
                // one that has come is on its way no more
                default: return calls[v] > time ? calls[v] : NOTHING;
            }
        }
    }

    /** THE LEDGER: there are no more ENTRIES than LEVELS, for no LEVEL changes its PRICE. */
    private static final class Ledger {
        private static final int ROOM = MOST_VENUES * MOST_LEVELS;

        int count = 0;
        final int[] venueRow = new int[ROOM];
        final int[] priceRow = new int[ROOM];
        final int[] unitRow = new int[ROOM];

        void copyFrom(Ledger other) {
            count = other.count;
            System.arraycopy(other.venueRow, 0, venueRow, 0, ROOM);
            System.arraycopy(other.priceRow, 0, priceRow, 0, ROOM);
            System.arraycopy(other.unitRow, 0, unitRow, 0, ROOM);
        }

        private int find(int v, int price) {
            for (int i = 0; i < count; i++) {
                if (venueRow[i] == v && priceRow[i] == price) {
                    return i;
                }
            }
            return NONE;
        }

        int unitsAt(int v, int price) {
            int i = find(v, price);
            return i == NONE ? 0 : unitRow[i];
        }

        void note(int v, int price, int n) {
            int i = find(v, price);
            if (i != NONE) {
                unitRow[i] += n;
            } else if (count < ROOM) {
                venueRow[count] = v;
                priceRow[count] = price;
                unitRow[count] = n;
                count++;
            }
        }
    }

    /** THE TAPE, and the reader of a SPLIT's text on it, which stops at the first FAULT. */
    private static final class Tape {
        private static final int FORM = 1;
        private static final int UNTOLD = 2;
        private static final int AGAIN = 3;
        private static final int OUT_OF_BOUNDS = 4;
        private static final int MANY = 5;
        private static final int LACKS = 6;

        private static final int END = 0;
        private static final int WORD = 1;
        private static final int WHOLE = 2;
        private static final int SEMICOLON = 3;
        private static final int MINUS = 4;
        private static final int NO_TOKEN = 5;

        private static final int LONGEST_WORD = 6;
        private static final int LONGEST_WHOLE = 3;

        int length = 0;
        int faultNumber = 0;
        int faultPlace = NONE;
        private final byte[] bytes = new byte[TAPE_ROOM];
        /** By VENUE its NAME, as a number that no other NAME has. */
        private final int[] names = new int[MOST_VENUES];
        private int end = 0;
        private int next = 0;
        private int token = END;
        private int tokenPlace = 0;
        /** Of a WHOLE what it says; of a WORD a number that no other WORD has. */
        private int tokenValue = 0;
        /** The WHOLE, or the VENUE by number, that was read last. */
        private int taken = 0;

        void put(int number) {
            for (int shift = 24; shift >= 0 && length < TAPE_ROOM; shift -= 8) {
                bytes[length] = (byte) (number >> shift);
                length++;
            }
        }

        /** Reads the first n bytes (0 .. length): whether they are a SPLIT. */
        boolean readInto(Market m, int n) {
            m.clear();
            faultNumber = 0;
            faultPlace = NONE;
            next = 0;
            end = n;
            step();
            for (int line = 0; line <= TAPE_ROOM; line++) {
                if (!readLine(m)) {
                    return false;
                }
                if (token == END) {
                    return m.venues > 0 || fails(LACKS);
                }
                if (token != SEMICOLON) {
                    return fails(FORM);
                }
                step();
            }
            return fails(FORM);
        }

        /** Always false, so that readers can answer with it. */
        private boolean fails(int number) {
            faultNumber = number;
            faultPlace = tokenPlace;
            return false;
        }

        private boolean readLine(Market m) {
            if (isWord("order")) {
                return readOrder(m);
            }
            if (isWord("venue")) {
                return opens(m, m.venues < MOST_VENUES) && readVenue(m, m.venues);
            }
            if (isWord("level")) {
                return opens(m, true) && readLevel(m);
            }
            if (isWord("event")) {
                return opens(m, m.events < MOST_EVENTS) && readEvent(m, m.events);
            }
            return fails(FORM);
        }

        private boolean opens(Market m, boolean room) {
            if (!room) {
                return fails(MANY);
            }
            if (m.wanted == 0) {
                return fails(LACKS);
            }
            step();
            return true;
        }

        private boolean readOrder(Market m) {
            if (m.wanted != 0) {
                return fails(AGAIN);
            }
            if (!takesWord("order") || !takesWhole(1, MOST_UNITS)) {
                return false;
            }
            m.wanted = taken;
            if (!takesWord("limit") || !takesWhole(1, MOST_PRICE)) {
                return false;
            }
            m.limit = taken;
            if (!takesWord("life") || !takesWhole(1, 20)) {
                return false;
            }
            m.life = taken;
            return true;
        }

        private boolean readVenue(Market m, int v) {
            if (!isName()) {
                return fails(FORM);
            }
            if (venueNamed(tokenValue, m.venues) != NONE) {
                return fails(AGAIN);
            }
            names[v] = tokenValue;
            step();
            if (!takesKind()) {
                return false;
            }
            m.kinds[v] = taken;
            if (!takesWord("lot") || !takesWhole(1, 20)) {
                return false;
            }
            m.lots[v] = taken;
            if (!takesFee()) {
                return false;
            }
            m.fees[v] = taken;
            if (!takesWord("least") || !takesWhole(0, 300)) {
                return false;
            }
            m.leasts[v] = taken;
            if (!takesWord("delay") || !takesWhole(1, 9)) {
                return false;
            }
            m.delays[v] = taken;
            m.venues++;
            return true;
        }

        private boolean readLevel(Market m) {
            if (!findsVenue(m)) {
                return false;
            }
            int v = taken;
            int k = m.levels[v];
            if (k >= MOST_LEVELS) {
                return fails(MANY);
            }
            step();
            int ahead = k > 0 ? m.prices[slot(v, k - 1)] : 0;
            if (!takesWhole(ahead + 1, MOST_PRICE)) {
                return false;
            }
            m.prices[slot(v, k)] = taken;
            if (!takesWhole(1, MOST_SIZE)) {
                return false;
            }
            m.sizes[slot(v, k)] = taken;
            m.levels[v]++;
            return true;
        }

        private boolean readEvent(Market m, int i) {
            int ahead = i > 0 ? m.eventTimes[i - 1] : 1;
            if (!takesWhole(ahead, 200)) {
                return false;
            }
            m.eventTimes[i] = taken;
            if (!findsVenue(m)) {
                return false;
            }
            int v = taken;
            step();
            if (!takesWhole(0, m.levels[v] - 1)) {
                return false;
            }
            m.eventSlots[i] = slot(v, taken);
            if (!takesWhole(0, MOST_SIZE)) {
                return false;
            }
            m.eventSizes[i] = taken;
            m.events++;
            return true;
        }

        private boolean takesKind() {
            if (isWord("plain")) {
                taken = PLAIN;
            } else if (isWord("tiers")) {
                taken = TIERS;
            } else if (isWord("flat")) {
                taken = FLAT;
            } else {
                return fails(FORM);
            }
            step();
            return true;
        }

        private boolean takesFee() {
            if (!takesWord("fee")) {
                return false;
            }
            boolean below = token == MINUS;
            if (below) {
                step();
            }
            if (!takesWhole(0, MOST_FEE)) {
                return false;
            }
            taken = below ? -taken : taken;
            return true;
        }

        private boolean takesWord(String word) {
            if (!isWord(word)) {
                return fails(FORM);
            }
            step();
            return true;
        }

        private boolean takesWhole(int low, int high) {
            if (token != WHOLE) {
                return fails(FORM);
            }
            if (tokenValue < low || tokenValue > high) {
                return fails(OUT_OF_BOUNDS);
            }
            taken = tokenValue;
            step();
            return true;
        }

        /** The NAME stays the token, for a FAULT may still be told at it. */
        private boolean findsVenue(Market m) {
            if (!isName()) {
                return fails(FORM);
            }
            taken = venueNamed(tokenValue, m.venues);
            return taken != NONE || fails(UNTOLD);
        }

        private int venueNamed(int name, int venues) {
            for (int v = 0; v < venues; v++) {
                if (names[v] == name) {
                    return v;
                }
            }
            return NONE;
        }

        private boolean isName() {
            return token == WORD
                && !isWord("order") && !isWord("venue") && !isWord("level") && !isWord("event");
        }

        private boolean isWord(String word) {
            if (token != WORD || word.length() != next - tokenPlace) {
                return false;
            }
            for (int i = 0; i < word.length(); i++) {
                if (bytes[tokenPlace + i] != word.charAt(i)) {
                    return false;
                }
            }
            return true;
        }

        /** Goes on to the next TOKEN. */
        private void step() {
            while (next < end && bytes[next] == ' ') {
                next++;
            }
            tokenPlace = next;
            tokenValue = 0;
            token = next < end ? sortOf(bytes[next]) : END;
            if (token == WORD) {
                stepOver('a', 'z', LONGEST_WORD);
            } else if (token == WHOLE) {
                stepOver('0', '9', LONGEST_WHOLE);
            } else if (token != END) {
                next++;
            }
        }

        /** Signs of one sort that stand together are one TOKEN, or none if they are too many. */
        private void stepOver(char first, char last, int longest) {
            // a WHOLE is written in tens; of a WORD no letter is 0, so that "a" and "aa" differ
            int base = token == WHOLE ? 10 : 27;
            int zero = token == WHOLE ? first : first - 1;
            while (next < end && bytes[next] >= first && bytes[next] <= last) {
                if (next - tokenPlace < longest) {
                    tokenValue = tokenValue * base + bytes[next] - zero;
                }
                next++;
            }
            if (next - tokenPlace > longest) {
                token = NO_TOKEN;
            }
        }

        private static int sortOf(byte sign) {
            if (sign >= 'a' && sign <= 'z') {
                return WORD;
            }
            if (sign >= '0' && sign <= '9') {
                return WHOLE;
            }
            return sign == ';' ? SEMICOLON : sign == '-' ? MINUS : NO_TOKEN;
        }
    }
}

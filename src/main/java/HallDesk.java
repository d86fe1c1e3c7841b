import java.util.Arrays;

/**
 * A desk that opens halls for towns. What each call answers is told in DOC.md; words in capitals in the
 * comments are that document's terms.
 */
public final class HallDesk {
    public static final int NONE = -1, BAD = -3, NO = -4, FULL = -5, NOTHING = -11, INDEX = -13, SIZE = -14;

    private static final int MOST_TOWNS = 8, MOST_HALLS = 7;
    private static final int ALL_SETS = 1 << MOST_HALLS, ALL_HEAPS = 1 << MOST_TOWNS;
    private static final int MOST_KEPT = 8, MOST_ROUNDS = 2000, MOST_TIMES = 60;
    private static final int MOST_PEOPLE = 20, MOST_MONEY = 100000, MOST_ROOM = 200, MOST_CLAIM = 1000000;
    private static final int EDGE = 1000, NO_WAY = 1000000;
    private static final int BYTES = 0, INTS = 2, MOST_IN_BYTES = 127, MOST_IN_OTHERS = 1000;
    private static final int SUM = 0, MOST = 1, PRICED = 2, ROOMED = 3, FINED = 4, CLOSED = 5, RIVAL = 6;
    private static final int ANY_SIZE = -1;
    private static final int BROKEN = -100;
    private static final int[] FACTORIALS = {1, 1, 2, 6, 24, 120, 720, 5040, 40320};

    private final Plan now = new Plan();
    private final Past past = new Past();
    private final Reach reach = new Reach(now);
    private final Rooming rooming = new Rooming(now, reach);
    private final Costs costs = new Costs(now, reach, rooming);
    private final Claims claims = new Claims(now);
    private final Heaps heaps = new Heaps(now, reach);
    private final Line onLine = new Line(now);
    private int hand;

    public HallDesk() {
    }

    // ---- towns and halls

    public int town() {
        if (now.towns >= MOST_TOWNS) {
            return FULL;
        }
        keepForUndo();
        return now.addTown();
    }

    public int hall() {
        if (now.halls >= MOST_HALLS) {
            return FULL;
        }
        keepForUndo();
        return now.addHall();
    }

    public int people(int town, int n) {
        if (!now.hasTown(town) || !within(n, 1, MOST_PEOPLE)) {
            return BAD;
        }
        return change(now.crowds, town, n);
    }

    public int fine(int town, int v) {
        if (!now.hasTown(town) || !within(v, 0, MOST_MONEY)) {
            return BAD;
        }
        return change(now.fines, town, v);
    }

    public int place(int town, int x) {
        if (!now.hasTown(town) || !within(x, -EDGE, EDGE)) {
            return BAD;
        }
        change(now.spots, town, x);
        return 0;
    }

    public int price(int hall, int v) {
        if (!now.hasHall(hall) || !within(v, 0, MOST_MONEY)) {
            return BAD;
        }
        return change(now.prices, hall, v);
    }

    public int room(int hall, int v) {
        if (!now.hasHall(hall) || !within(v, 0, MOST_ROOM)) {
            return BAD;
        }
        return change(now.rooms, hall, v);
    }

    public int sheet(int hall, int width, int n) {
        if (!now.hasHall(hall) || !within(width, BYTES, INTS) || n > MOST_TOWNS) {
            return BAD;
        }
        if (n < 0) {
            return SIZE;
        }
        keepForUndo();
        now.laySheet(hall, width, n);
        return n;
    }

    public int lose(int hall) {
        if (!now.hasHall(hall)) {
            return BAD;
        }
        if (now.isMissing(hall)) {
            return NOTHING;
        }
        int had = now.lengths[hall];
        keepForUndo();
        now.laySheet(hall, NONE, 0);
        return had;
    }

    public int way(int hall, int place, int v) {
        if (!now.hasHall(hall)) {
            return BAD;
        }
        if (now.isMissing(hall)) {
            return NOTHING;
        }
        if (!within(place, 0, now.lengths[hall] - 1)) {
            return INDEX;
        }
        if (!within(v, 0, now.widths[hall] == BYTES ? MOST_IN_BYTES : MOST_IN_OTHERS)) {
            return BAD;
        }
        return change(now.ways, hall * MOST_TOWNS + place, v);
    }

    public int copy(int hall, int place, int to, int at, int many) {
        if (!now.hasHall(hall) || !now.hasHall(to)) {
            return BAD;
        }
        if (now.isMissing(hall) || now.isMissing(to)) {
            return NOTHING;
        }
        if (now.widths[hall] != now.widths[to]) {
            return NO;
        }
        if (!now.hasPlaces(hall, place, many) || !now.hasPlaces(to, at, many)) {
            return INDEX;
        }
        keepForUndo();
        System.arraycopy(now.ways, hall * MOST_TOWNS + place, now.ways, to * MOST_TOWNS + at, many);
        return many;
    }

    public int far(int hall, int town) {
        if (!now.hasHall(hall) || !now.hasTown(town)) {
            return BAD;
        }
        return now.wayOf(hall, town);
    }

    public int about(int of, int number, int what) {
        if (of == 0 && now.hasTown(number)) {
            return aboutTown(number, what);
        }
        if (of == 1 && now.hasHall(number)) {
            return aboutHall(number, what);
        }
        return BAD;
    }

    public int undo() {
        if (past.kept <= 0) {
            return NO;
        }
        past.giveBack(now);
        forgetAnswers();
        claims.dropLost();
        hand &= now.everyHall();
        return past.kept;
    }

    // ---- sets

    public int open(int set) {
        if (!within(set, 0, now.everyHall())) {
            return BAD;
        }
        hand = set;
        return Integer.bitCount(set);
    }

    public int opened() {
        return hand;
    }

    public int cost(int kind) {
        return isKind(kind) ? freshCosts().costOf(kind, hand) : BAD;
    }

    public int goes(int kind, int town) {
        if (!within(kind, SUM, FINED) || !now.hasTown(town)) {
            return BAD;
        }
        return freshCosts().hallFor(kind, hand, town);
    }

    public int worst(int kind) {
        if (kind != CLOSED && kind != RIVAL) {
            return BAD;
        }
        return kind == CLOSED ? freshCosts().worstToClose(hand) : freshCosts().worstRival(hand);
    }

    public int least(int kind, int k) {
        if (!isQuestion(kind, k)) {
            return BAD;
        }
        freshCosts().seekBest(kind, k);
        return costs.least;
    }

    public int many(int kind, int k) {
        if (!isQuestion(kind, k)) {
            return BAD;
        }
        freshCosts().seekBest(kind, k);
        return costs.bestUpTo(now.everyHall());
    }

    public int best(int kind, int k, int i) {
        if (!isQuestion(kind, k) || i < 0) {
            return BAD;
        }
        freshCosts().seekBest(kind, k);
        int set = costs.bestAt(i);
        if (set != NONE) {
            hand = set;
        }
        return set;
    }

    public int number(int kind, int k) {
        if (!isQuestion(kind, k)) {
            return BAD;
        }
        freshCosts().seekBest(kind, k);
        return costs.isBest(hand) ? costs.bestUpTo(hand) - 1 : NONE;
    }

    public int better(int kind, int n) {
        if (!isKind(kind) || !within(n, 1, MOST_TIMES)) {
            return BAD;
        }
        freshCosts().seekBest(kind, ANY_SIZE);
        for (int times = 0; times < n; times++) {
            int next = costs.cheapestBeside(hand);
            if (next == hand) {
                return times;
            }
            hand = next;
        }
        return n;
    }

    // ---- claims

    public int claim(int town, int v) {
        if (!now.hasTown(town) || !within(v, 0, MOST_CLAIM)) {
            return BAD;
        }
        int was = claims.values[town];
        claims.values[town] = v;
        return was;
    }

    public int claimed(int town) {
        return now.hasTown(town) ? claims.values[town] : BAD;
    }

    public int holds() {
        int hall = claims.firstBroken();
        return hall == NONE ? claims.together(now.everyTown()) : BROKEN - hall;
    }

    public int raise() {
        if (now.halls == 0) {
            return NO;
        }
        claims.raiseAll();
        return claims.together(now.everyTown());
    }

    public int fair() {
        if (now.halls == 0) {
            return NONE;
        }
        heaps.refresh();
        int all = now.everyTown();
        if (claims.together(all) != heaps.leastCosts[all]) {
            return 1;
        }
        for (int heap = 1; heap <= all; heap++) {
            if (claims.together(heap) > heaps.leastCosts[heap]) {
                return 2 + heap;
            }
        }
        return 0;
    }

    public long share(int town, int part) {
        if (!now.hasTown(town) || !within(part, 0, 1)) {
            return BAD;
        }
        if (now.halls == 0) {
            return NONE;
        }
        heaps.refresh();
        long above = heaps.addedInAllOrders(town);
        long below = FACTORIALS[now.towns];
        long common = commonDivisor(above, below);
        return (part == 0 ? above : below) / common;
    }

    // ---- on the line

    public int line(int kind, int k) {
        if (!isLineQuestion(kind, k)) {
            return BAD;
        }
        onLine.choose(kind, k);
        return onLine.least;
    }

    public int lineAt(int kind, int k, int i) {
        if (!isLineQuestion(kind, k) || i < 0) {
            return BAD;
        }
        onLine.choose(kind, k);
        return onLine.chosenAt(i);
    }

    public int count(int what) {
        switch (what) {
            case 0:
                return now.towns;
            case 1:
                return now.halls;
            case 2:
                return now.allPeople();
            case 3:
                return now.sheets();
            case 4:
                return Integer.bitCount(hand);
            case 5:
                return past.kept;
            case 6:
                return claims.together(now.everyTown());
            default:
                return BAD;
        }
    }

    // ---- what the calls share

    private static boolean within(int v, int from, int to) {
        return v >= from && v <= to;
    }

    private static boolean isKind(int kind) {
        return within(kind, SUM, RIVAL);
    }

    private static boolean isQuestion(int kind, int k) {
        return isKind(kind) && within(k, ANY_SIZE, MOST_HALLS);
    }

    private static boolean isLineQuestion(int kind, int k) {
        return within(kind, SUM, MOST) && within(k, 1, MOST_TOWNS);
    }

    private void keepForUndo() {
        past.keep(now);
        forgetAnswers();
    }

    private void forgetAnswers() {
        reach.forget();
        rooming.forget();
        heaps.forget();
    }

    private Costs freshCosts() {
        reach.refresh();
        return costs;
    }

    private int change(int[] row, int at, int v) {
        int was = row[at];
        keepForUndo();
        row[at] = v;
        return was;
    }

    private int aboutTown(int town, int what) {
        switch (what) {
            case 0:
                return now.crowds[town];
            case 1:
                return now.fines[town];
            case 2:
                return now.spots[town] + EDGE;
            default:
                return BAD;
        }
    }

    private int aboutHall(int hall, int what) {
        switch (what) {
            case 0:
                return now.prices[hall];
            case 1:
                return now.rooms[hall];
            case 2:
                return now.widths[hall];
            case 3:
                return now.lengths[hall];
            default:
                return BAD;
        }
    }

    private static long commonDivisor(long above, long below) {
        long a = above;
        long b = below;
        for (int step = 0; step < 200 && b != 0; step++) {
            long rest = a % b;
            a = b;
            b = rest;
        }
        return Math.max(1, Math.abs(a));
    }

    /** All that undo() can take back: TOWNS and HALLS. */
    private static final class Plan {
        int towns;
        int halls;
        final int[] crowds = new int[MOST_TOWNS];
        final int[] fines = new int[MOST_TOWNS];
        final int[] spots = new int[MOST_TOWNS];
        final int[] prices = new int[MOST_HALLS];
        final int[] rooms = new int[MOST_HALLS];
        final int[] widths = new int[MOST_HALLS];
        final int[] lengths = new int[MOST_HALLS];
        // MOST_TOWNS for each HALL; NO_WAY where its SHEET does not reach.
        final int[] ways = new int[MOST_HALLS * MOST_TOWNS];

        void takeFrom(Plan other) {
            towns = other.towns;
            halls = other.halls;
            System.arraycopy(other.crowds, 0, crowds, 0, MOST_TOWNS);
            System.arraycopy(other.fines, 0, fines, 0, MOST_TOWNS);
            System.arraycopy(other.spots, 0, spots, 0, MOST_TOWNS);
            System.arraycopy(other.prices, 0, prices, 0, MOST_HALLS);
            System.arraycopy(other.rooms, 0, rooms, 0, MOST_HALLS);
            System.arraycopy(other.widths, 0, widths, 0, MOST_HALLS);
            System.arraycopy(other.lengths, 0, lengths, 0, MOST_HALLS);
            System.arraycopy(other.ways, 0, ways, 0, MOST_HALLS * MOST_TOWNS);
        }

        int addTown() {
            int town = towns;
            towns++;
            crowds[town] = 1;
            fines[town] = 0;
            spots[town] = 0;
            return town;
        }

        int addHall() {
            int hall = halls;
            halls++;
            prices[hall] = 0;
            rooms[hall] = MOST_ROOM;
            laySheet(hall, NONE, 0);
            return hall;
        }

        void laySheet(int hall, int width, int n) {
            widths[hall] = width;
            lengths[hall] = n;
            for (int place = 0; place < MOST_TOWNS; place++) {
                ways[hall * MOST_TOWNS + place] = place < n ? 0 : NO_WAY;
            }
        }

        boolean hasTown(int town) {
            return town >= 0 && town < towns;
        }

        boolean hasHall(int hall) {
            return hall >= 0 && hall < halls;
        }

        boolean isMissing(int hall) {
            return widths[hall] == NONE;
        }

        // Taking away instead of adding: from + many could wrap around.
        boolean hasPlaces(int hall, int from, int many) {
            return from >= 0 && many >= 0 && many <= lengths[hall] - from;
        }

        int everyTown() {
            return (1 << towns) - 1;
        }

        int everyHall() {
            return (1 << halls) - 1;
        }

        int wayOf(int hall, int town) {
            return ways[hall * MOST_TOWNS + town];
        }

        int tripOf(int hall, int town) {
            return crowds[town] * ways[hall * MOST_TOWNS + town];
        }

        static boolean isIn(int bit, int bits) {
            return ((bits >> bit) & 1) != 0;
        }

        int allPeople() {
            int together = 0;
            for (int town = 0; town < towns; town++) {
                together += crowds[town];
            }
            return together;
        }

        int sheets() {
            int found = 0;
            for (int hall = 0; hall < halls; hall++) {
                found += isMissing(hall) ? 0 : 1;
            }
            return found;
        }
    }

    /** The plans ahead of the latest changes, the oldest first. */
    private static final class Past {
        private final Plan[] plans = new Plan[MOST_KEPT];
        int kept;

        Past() {
            for (int i = 0; i < MOST_KEPT; i++) {
                plans[i] = new Plan();
            }
        }

        void keep(Plan now) {
            if (kept >= MOST_KEPT) {
                dropOldest();
            }
            plans[kept].takeFrom(now);
            kept++;
        }

        // The oldest plan's object goes to the end, to be written over: a desk makes no plans later.
        private void dropOldest() {
            Plan oldest = plans[0];
            for (int i = 1; i < MOST_KEPT; i++) {
                plans[i - 1] = plans[i];
            }
            plans[MOST_KEPT - 1] = oldest;
            kept = MOST_KEPT - 1;
        }

        void giveBack(Plan now) {
            if (kept > 0) {
                kept--;
                now.takeFrom(plans[kept]);
            }
        }
    }

    /** For every SET its TOWNS' least WAYS, its SUM and its PRICES, all made when first asked for after a change. */
    private static final class Reach {
        private final Plan plan;
        // MOST_TOWNS for each SET.
        final int[] nearWays = new int[ALL_SETS * MOST_TOWNS];
        final int[] sums = new int[ALL_SETS];
        final int[] prices = new int[ALL_SETS];
        private boolean stale = true;

        Reach(Plan plan) {
            this.plan = plan;
        }

        void forget() {
            stale = true;
        }

        void refresh() {
            if (!stale) {
                return;
            }
            stale = false;
            for (int town = 0; town < MOST_TOWNS; town++) {
                nearWays[town] = NO_WAY;
            }
            sums[0] = plan.towns == 0 ? 0 : NONE;
            prices[0] = 0;
            for (int hall = 0; hall < plan.halls; hall++) {
                for (int others = 0; others < 1 << hall; others++) {
                    addHallTo(others, hall);
                }
            }
        }

        private void addHallTo(int others, int hall) {
            int set = others | 1 << hall;
            int sum = 0;
            for (int town = 0; town < plan.towns; town++) {
                int near = Math.min(nearWays[others * MOST_TOWNS + town], plan.wayOf(hall, town));
                nearWays[set * MOST_TOWNS + town] = near;
                sum += plan.crowds[town] * near;
            }
            sums[set] = sum;
            prices[set] = prices[others] + plan.prices[hall];
        }

        int nearWay(int set, int town) {
            return nearWays[set * MOST_TOWNS + town];
        }

        int nearHall(int set, int town) {
            for (int hall = 0; hall < plan.halls; hall++) {
                if (Plan.isIn(hall, set) && plan.wayOf(hall, town) == nearWay(set, town)) {
                    return hall;
                }
            }
            return NONE;
        }
    }

    /** COSTS of SETS by KINDS, and the questions about the BEST. It counts on a Reach that is fresh. */
    private static final class Costs {
        private final Plan plan;
        private final Reach reach;
        private final Rooming rooming;
        // By SETS: their COSTS in the question at hand; NONE also for SETS that are not of its size.
        private final int[] asked = new int[ALL_SETS];
        int least;

        Costs(Plan plan, Reach reach, Rooming rooming) {
            this.plan = plan;
            this.reach = reach;
            this.rooming = rooming;
        }

        int costOf(int kind, int set) {
            switch (kind) {
                case SUM:
                    return reach.sums[set];
                case MOST:
                    return mostOf(set);
                case PRICED:
                    return withPrices(reach.sums[set], set);
                case ROOMED:
                    return withPrices(Rooming.tripsOf(rooming.fillingOf(set)), set);
                case FINED:
                    return finedOf(set);
                case CLOSED:
                    return closedOf(set);
                default:
                    return rivalOf(set);
            }
        }

        private int withPrices(int trips, int set) {
            return trips == NONE ? NONE : trips + reach.prices[set];
        }

        private int mostOf(int set) {
            if (reach.sums[set] == NONE) {
                return NONE;
            }
            int greatest = 0;
            for (int town = 0; town < plan.towns; town++) {
                greatest = Math.max(greatest, reach.nearWay(set, town));
            }
            return greatest;
        }

        // The empty SET leaves all: no FINE reaches what one of its TOWNS would cost.
        private int finedOf(int set) {
            int together = reach.prices[set];
            for (int town = 0; town < plan.towns; town++) {
                together += Math.min(plan.fines[town], plan.crowds[town] * reach.nearWay(set, town));
            }
            return together;
        }

        private int closedOf(int set) {
            int hall = worstToClose(set);
            return hall == NONE ? NONE : reach.sums[set & ~(1 << hall)];
        }

        int worstToClose(int set) {
            if (Integer.bitCount(set) < 2) {
                return NONE;
            }
            int worst = NONE;
            int most = NONE;
            for (int hall = 0; hall < plan.halls; hall++) {
                if (Plan.isIn(hall, set) && reach.sums[set & ~(1 << hall)] > most) {
                    worst = hall;
                    most = reach.sums[set & ~(1 << hall)];
                }
            }
            return worst;
        }

        private int rivalOf(int set) {
            if (set == 0) {
                return NONE;
            }
            int rival = worstRival(set);
            return rival == NONE ? 0 : takenBy(rival, set);
        }

        int worstRival(int set) {
            if (set == 0) {
                return NONE;
            }
            int worst = NONE;
            int most = NONE;
            for (int hall = 0; hall < plan.halls; hall++) {
                int taken = Plan.isIn(hall, set) ? NONE : takenBy(hall, set);
                if (taken > most) {
                    worst = hall;
                    most = taken;
                }
            }
            return worst;
        }

        private int takenBy(int rival, int set) {
            int taken = 0;
            for (int town = 0; town < plan.towns; town++) {
                taken += plan.wayOf(rival, town) < reach.nearWay(set, town) ? plan.crowds[town] : 0;
            }
            return taken;
        }

        int hallFor(int kind, int set, int town) {
            if (kind == ROOMED) {
                return Rooming.hallIn(rooming.fillingOf(set), town);
            }
            int hall = reach.nearHall(set, town);
            if (kind == FINED && hall != NONE && plan.fines[town] < plan.tripOf(hall, town)) {
                return NONE;
            }
            return hall;
        }

        void seekBest(int kind, int k) {
            least = NONE;
            for (int set = 0; set <= plan.everyHall(); set++) {
                boolean counts = k == ANY_SIZE || Integer.bitCount(set) == k;
                asked[set] = counts ? costOf(kind, set) : NONE;
                if (isLess(asked[set], least)) {
                    least = asked[set];
                }
            }
        }

        // One that has a COST is less than one that has none.
        private static boolean isLess(int one, int other) {
            return one != NONE && (other == NONE || one < other);
        }

        boolean isBest(int set) {
            return least != NONE && asked[set] == least;
        }

        int bestUpTo(int last) {
            int found = 0;
            for (int set = 0; set <= last; set++) {
                found += isBest(set) ? 1 : 0;
            }
            return found;
        }

        int bestAt(int i) {
            int ahead = 0;
            for (int set = 0; set <= plan.everyHall(); set++) {
                if (isBest(set)) {
                    if (ahead == i) {
                        return set;
                    }
                    ahead++;
                }
            }
            return NONE;
        }

        int cheapestBeside(int from) {
            int cheapest = from;
            for (int set = 0; set <= plan.everyHall(); set++) {
                if (isBeside(from, set) && isLess(asked[set], asked[cheapest])) {
                    cheapest = set;
                }
            }
            return cheapest;
        }

        private static boolean isBeside(int from, int set) {
            int unlike = Integer.bitCount(from ^ set);
            return unlike == 1 || (unlike == 2 && Integer.bitCount(from) == Integer.bitCount(set));
        }
    }

    /**
     * The choices of KIND 3. A filling is told as one number: what its trips cost above CODE_BITS bits, its
     * HALLS below them, TOWN 0's first. So of two fillings the one that the document prefers is the lesser
     * number, and fillings of two heaps of TOWNS are joined by adding.
     */
    private static final class Rooming {
        private static final long NEVER = 1L << 60, UNKNOWN = -2;
        private static final int HALL_BITS = 3, CODE_BITS = HALL_BITS * MOST_TOWNS;

        private final Plan plan;
        private final Reach reach;
        private final long[] fillings = new long[ALL_SETS];
        // tables[h][heap]: the best filling with a heap of those HALLS of the built SET that are h or above.
        private final long[][] tables = new long[MOST_HALLS + 1][ALL_HEAPS];
        private final long[] trips = new long[MOST_HALLS * MOST_TOWNS];
        private final long[] alone = new long[ALL_HEAPS];
        private final int[] peopleOf = new int[ALL_HEAPS];
        private final int[] guests = new int[MOST_HALLS];
        private int built = NONE;
        private boolean stale = true;

        Rooming(Plan plan, Reach reach) {
            this.plan = plan;
            this.reach = reach;
        }

        static int tripsOf(long filling) {
            return filling == NEVER ? NONE : (int) (filling >> CODE_BITS);
        }

        static int hallIn(long filling, int town) {
            return filling == NEVER ? NONE : (int) ((filling >> shiftOf(town)) & ((1 << HALL_BITS) - 1));
        }

        private static int shiftOf(int town) {
            return HALL_BITS * (MOST_TOWNS - 1 - town);
        }

        void forget() {
            stale = true;
        }

        long fillingOf(int set) {
            if (stale) {
                startAnew();
            }
            if (fillings[set] == UNKNOWN) {
                fillings[set] = nearestFilling(set);
            }
            if (fillings[set] == UNKNOWN) {
                fillings[set] = bestFilling(set);
            }
            return fillings[set];
        }

        private void startAnew() {
            stale = false;
            built = NONE;
            Arrays.fill(fillings, UNKNOWN);
            fillings[0] = plan.towns == 0 ? 0 : NEVER;
            Arrays.fill(tables[plan.halls], NEVER);
            tables[plan.halls][0] = 0;
            for (int town = 0; town < plan.towns; town++) {
                for (int hall = 0; hall < plan.halls; hall++) {
                    long cost = (long) plan.tripOf(hall, town) << CODE_BITS;
                    trips[hall * MOST_TOWNS + town] = cost + ((long) hall << shiftOf(town));
                }
                for (int heap = 0; heap < 1 << town; heap++) {
                    peopleOf[heap | 1 << town] = peopleOf[heap] + plan.crowds[town];
                }
            }
        }

        // Where rooms are wide enough for all to go to the nearest, nothing is better and no tables are due.
        private long nearestFilling(int set) {
            long filling = 0;
            Arrays.fill(guests, 0);
            for (int town = 0; town < plan.towns; town++) {
                int hall = reach.nearHall(set, town);
                if (hall == NONE || guests[hall] + plan.crowds[town] > plan.rooms[hall]) {
                    return UNKNOWN;
                }
                guests[hall] += plan.crowds[town];
                filling += trips[hall * MOST_TOWNS + town];
            }
            return filling;
        }

        private long bestFilling(int set) {
            for (int hall = plan.halls - 1; hall >= 0; hall--) {
                // SETS are mostly asked in order: what they share in their upper HALLS is built once.
                if (set >> hall != built >> hall) {
                    layTable(hall, Plan.isIn(hall, set));
                }
            }
            built = set;
            return tables[0][plan.everyTown()];
        }

        private void layTable(int hall, boolean opened) {
            System.arraycopy(tables[hall + 1], 0, tables[hall], 0, ALL_HEAPS);
            if (!opened) {
                return;
            }
            for (int town = 0; town < plan.towns; town++) {
                for (int heap = 0; heap < 1 << town; heap++) {
                    alone[heap | 1 << town] = alone[heap] + trips[hall * MOST_TOWNS + town];
                }
            }
            int all = plan.everyTown();
            for (int heap = 1; heap <= all; heap++) {
                if (peopleOf[heap] <= plan.rooms[hall]) {
                    admit(hall, heap, all & ~heap);
                }
            }
        }

        private void admit(int hall, int heap, int others) {
            long[] before = tables[hall + 1];
            long[] after = tables[hall];
            long here = alone[heap];
            after[heap | others] = Math.min(after[heap | others], before[others] + here);
            // Nothing is built upon HALL 0's table: there only the heap of all TOWNS is asked for.
            int rest = hall == 0 ? 0 : others;
            while (rest > 0) {
                rest = (rest - 1) & others;
                if (before[rest] + here < after[heap | rest]) {
                    after[heap | rest] = before[rest] + here;
                }
            }
        }
    }

    /** CLAIMS; those of TOWNS that are not there are 0. */
    private static final class Claims {
        private final Plan plan;
        final int[] values = new int[MOST_TOWNS];
        private final int[] left = new int[MOST_HALLS];

        Claims(Plan plan) {
            this.plan = plan;
        }

        void dropLost() {
            for (int town = plan.towns; town < MOST_TOWNS; town++) {
                values[town] = 0;
            }
        }

        int together(int heap) {
            int sum = 0;
            for (int town = 0; town < plan.towns; town++) {
                sum += Plan.isIn(town, heap) ? values[town] : 0;
            }
            return sum;
        }

        int firstBroken() {
            for (int hall = 0; hall < plan.halls; hall++) {
                int above = 0;
                for (int town = 0; town < plan.towns; town++) {
                    above += Math.max(0, values[town] - plan.tripOf(hall, town));
                }
                if (above > plan.prices[hall]) {
                    return hall;
                }
            }
            return NONE;
        }

        void raiseAll() {
            Arrays.fill(values, 0);
            System.arraycopy(plan.prices, 0, left, 0, plan.halls);
            int rounds = MOST_ROUNDS;
            int free = freeTowns();
            for (int step = 0; step < MOST_ROUNDS && rounds > 0 && free != 0; step++) {
                rounds -= raiseSome(free, rounds);
                free = freeTowns();
            }
        }

        // What a HALL has left never grows, so a TOWN that is stopped once is stopped for good.
        private int freeTowns() {
            int free = 0;
            for (int town = 0; town < plan.towns; town++) {
                free |= isStopped(town) ? 0 : 1 << town;
            }
            return free;
        }

        private boolean isStopped(int town) {
            for (int hall = 0; hall < plan.halls; hall++) {
                if (left[hall] == 0 && pays(town, hall)) {
                    return true;
                }
            }
            return false;
        }

        private boolean pays(int town, int hall) {
            return values[town] >= plan.tripOf(hall, town);
        }

        /** One round, or as many as go alike, which are done at once: how many. */
        private int raiseSome(int free, int most) {
            int alike = alikeRounds(free, most);
            for (int town = 0; town < plan.towns; town++) {
                // In a round that stands alone a TOWN may be stopped by those ahead of it.
                if (Plan.isIn(town, free) && (alike > 0 || !isStopped(town))) {
                    raiseBy(town, Math.max(1, alike));
                }
            }
            return Math.max(1, alike);
        }

        /** How many rounds raise all free TOWNS, each at the cost of the same HALLS all the while. */
        private int alikeRounds(int free, int most) {
            int rounds = most;
            for (int town = 0; town < plan.towns; town++) {
                if (Plan.isIn(town, free)) {
                    rounds = Math.min(rounds, roundsTillPaying(town, most));
                }
            }
            for (int hall = 0; hall < plan.halls; hall++) {
                int payers = payersOf(hall, free);
                if (payers > 0) {
                    rounds = Math.min(rounds, left[hall] / payers);
                }
            }
            return rounds;
        }

        private int roundsTillPaying(int town, int most) {
            int rounds = most;
            for (int hall = 0; hall < plan.halls; hall++) {
                if (!pays(town, hall)) {
                    rounds = Math.min(rounds, plan.tripOf(hall, town) - values[town]);
                }
            }
            return rounds;
        }

        private int payersOf(int hall, int free) {
            int payers = 0;
            for (int town = 0; town < plan.towns; town++) {
                payers += (Plan.isIn(town, free) && pays(town, hall)) ? 1 : 0;
            }
            return payers;
        }

        private void raiseBy(int town, int v) {
            for (int hall = 0; hall < plan.halls; hall++) {
                left[hall] -= pays(town, hall) ? v : 0;
            }
            values[town] += v;
        }
    }

    /** What HEAPS of TOWNS cost, worked out when it is first asked for after a change. */
    private static final class Heaps {
        // No HEAP costs as much: 160 PEOPLE with no WAY, and all PRICES, stay below 2 to the 28th.
        private static final int TOO_MUCH = 1 << 30;

        private final Plan plan;
        private final Reach reach;
        final int[] leastCosts = new int[ALL_HEAPS];
        private final int[] byOneSet = new int[ALL_HEAPS];
        private boolean stale = true;

        Heaps(Plan plan, Reach reach) {
            this.plan = plan;
            this.reach = reach;
        }

        void forget() {
            stale = true;
        }

        void refresh() {
            if (!stale) {
                return;
            }
            stale = false;
            reach.refresh();
            Arrays.fill(leastCosts, TOO_MUCH);
            leastCosts[0] = 0;
            for (int set = 1; set <= plan.everyHall(); set++) {
                offer(set);
            }
        }

        private void offer(int set) {
            byOneSet[0] = reach.prices[set];
            for (int town = 0; town < plan.towns; town++) {
                int trip = plan.crowds[town] * reach.nearWay(set, town);
                for (int rest = 0; rest < 1 << town; rest++) {
                    int heap = rest | 1 << town;
                    byOneSet[heap] = byOneSet[rest] + trip;
                    leastCosts[heap] = Math.min(leastCosts[heap], byOneSet[heap]);
                }
            }
        }

        /** The SHARE of a TOWN times the number of all orders: what it adds in each of them, together. */
        long addedInAllOrders(int town) {
            long together = 0;
            for (int ahead = 0; ahead <= plan.everyTown(); ahead++) {
                if (!Plan.isIn(town, ahead)) {
                    int before = Integer.bitCount(ahead);
                    int behind = plan.towns - 1 - before;
                    long orders = (long) FACTORIALS[before] * FACTORIALS[behind];
                    together += orders * (leastCosts[ahead | 1 << town] - leastCosts[ahead]);
                }
            }
            return together;
        }
    }

    /** Choices of PLACES on the line. */
    private static final class Line {
        private final Plan plan;
        private final int[] spots = new int[MOST_TOWNS];
        private int unlike;
        private int chosen;
        int least;

        Line(Plan plan) {
            this.plan = plan;
        }

        /**
         * A choice is told as bits, the least PLACE in the highest bit: of choices of one size the one that
         * comes first, as its PLACES are compared, is then the greatest number. Without TOWNS there is no
         * choice, and the least stays NONE.
         */
        void choose(int kind, int k) {
            gatherSpots();
            int size = Math.min(k, unlike);
            chosen = 0;
            least = NONE;
            for (int choice = (1 << unlike) - 1; choice > 0; choice--) {
                if (Integer.bitCount(choice) == size) {
                    int found = kind == SUM ? sumFor(choice) : mostFor(choice);
                    if (least == NONE || found < least) {
                        least = found;
                        chosen = choice;
                    }
                }
            }
        }

        private void gatherSpots() {
            unlike = 0;
            for (int town = 0; town < plan.towns; town++) {
                insertSpot(plan.spots[town]);
            }
        }

        private void insertSpot(int x) {
            int at = 0;
            while (at < unlike && spots[at] < x) {
                at++;
            }
            if (at < unlike && spots[at] == x) {
                return;
            }
            for (int i = unlike; i > at; i--) {
                spots[i] = spots[i - 1];
            }
            spots[at] = x;
            unlike++;
        }

        private boolean isChosen(int choice, int i) {
            return Plan.isIn(unlike - 1 - i, choice);
        }

        private int nearestOn(int choice, int x) {
            int nearest = 2 * EDGE;
            for (int i = 0; i < unlike; i++) {
                if (isChosen(choice, i)) {
                    nearest = Math.min(nearest, Math.abs(spots[i] - x));
                }
            }
            return nearest;
        }

        private int sumFor(int choice) {
            int together = 0;
            for (int town = 0; town < plan.towns; town++) {
                together += plan.crowds[town] * nearestOn(choice, plan.spots[town]);
            }
            return together;
        }

        private int mostFor(int choice) {
            int greatest = 0;
            for (int town = 0; town < plan.towns; town++) {
                greatest = Math.max(greatest, nearestOn(choice, plan.spots[town]));
            }
            return greatest;
        }

        int chosenAt(int i) {
            int ahead = 0;
            for (int at = 0; at < unlike; at++) {
                if (isChosen(chosen, at)) {
                    if (ahead == i) {
                        return spots[at] + EDGE;
                    }
                    ahead++;
                }
            }
            return NONE;
        }
    }
}

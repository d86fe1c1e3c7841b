import java.util.Arrays;

/**
 * A desk that opens halls for towns. What each call answers is told in DOC.md; words in capitals in the
 * comments are that document's terms.
 */
public final class HallDesk {
    public static final int NONE = -1, BAD = -3, NO = -4, FULL = -5, NOTHING = -11, INDEX = -13, SIZE = -14;

    private static final int MOST_TOWNS = 8, MOST_HALLS = 7;
    private static final int ALL_SETS = 1 << MOST_HALLS, ALL_HEAPS = 1 << MOST_TOWNS;
    private static final int MOST_KEPT = 8, MOST_ROUNDS = 2000, MOST_TIMES = 60;
    private static final int MOST_PEOPLE = 20, MOST_MONEY = 100000, MOST_ROOM = 200, MOST_CLAIM = 1000000;
    private static final int EDGE = 1000, NO_WAY = 1000000;
    private static final int BYTES = 0, INTS = 2, MOST_IN_BYTES = 127, MOST_IN_OTHERS = 1000;
    private static final int SUM = 0, MOST = 1, PRICED = 2, ROOMED = 3, FINED = 4, CLOSED = 5, RIVAL = 6, KINDS = 7;
    private static final int ANY_SIZE = -1;
    private static final int BROKEN = -100;
    private static final int[] FACTORIALS = {1, 1, 2, 6, 24, 120, 720, 5040, 40320};

    private final Plan now = new Plan();
    private final Past past = new Past();
    private final Costs costs = new Costs(now);
    private final Claims claims = new Claims(now);
    private final Heaps heaps = new Heaps(now);
    private final Line onLine = new Line(now);
    private int hand;

    public HallDesk() {
    }

    // ---- towns and halls

    public int town() {
        if (now.towns >= MOST_TOWNS) {
            return FULL;
        }
        keepForUndo();
        return now.addTown();
    }

    public int hall() {
        if (now.halls >= MOST_HALLS) {
            return FULL;
        }
        keepForUndo();
        return now.addHall();
    }

    public int people(int town, int n) {
        if (!now.hasTown(town) || !within(n, 1, MOST_PEOPLE)) {
            return BAD;
        }
        return change(now.crowds, town, n);
    }

    public int fine(int town, int v) {
        if (!now.hasTown(town) || !within(v, 0, MOST_MONEY)) {
            return BAD;
        }
        return change(now.fines, town, v);
    }

    public int place(int town, int x) {
        if (!now.hasTown(town) || !within(x, -EDGE, EDGE)) {
            return BAD;
        }
        change(now.spots, town, x);
        return 0;
    }

    public int price(int hall, int v) {
        if (!now.hasHall(hall) || !within(v, 0, MOST_MONEY)) {
            return BAD;
        }
        return change(now.prices, hall, v);
    }

    public int room(int hall, int v) {
        if (!now.hasHall(hall) || !within(v, 0, MOST_ROOM)) {
            return BAD;
        }
        return change(now.rooms, hall, v);
    }

    public int sheet(int hall, int width, int n) {
        if (!now.hasHall(hall) || !within(width, BYTES, INTS) || n > MOST_TOWNS) {
            return BAD;
        }
        if (n < 0) {
            return SIZE;
        }
        keepForUndo();
        now.laySheet(hall, width, n);
        return n;
    }

    public int lose(int hall) {
        if (!now.hasHall(hall)) {
            return BAD;
        }
        if (now.isMissing(hall)) {
            return NOTHING;
        }
        int had = now.lengths[hall];
        keepForUndo();
        now.laySheet(hall, NONE, 0);
        return had;
    }

    public int way(int hall, int place, int v) {
        if (!now.hasHall(hall)) {
            return BAD;
        }
        if (now.isMissing(hall)) {
            return NOTHING;
        }
        if (!within(place, 0, now.lengths[hall] - 1)) {
            return INDEX;
        }
        if (!within(v, 0, now.widths[hall] == BYTES ? MOST_IN_BYTES : MOST_IN_OTHERS)) {
            return BAD;
        }
        return change(now.ways, Plan.slot(hall, place), v);
    }

    public int copy(int hall, int place, int to, int at, int many) {
        if (!now.hasHall(hall) || !now.hasHall(to)) {
            return BAD;
        }
        if (now.isMissing(hall) || now.isMissing(to)) {
            return NOTHING;
        }
        if (now.widths[hall] != now.widths[to]) {
            return NO;
        }
        if (!now.hasPlaces(hall, place, many) || !now.hasPlaces(to, at, many)) {
            return INDEX;
        }
        keepForUndo();
        System.arraycopy(now.ways, Plan.slot(hall, place), now.ways, Plan.slot(to, at), many);
        return many;
    }

    public int far(int hall, int town) {
        if (!now.hasHall(hall) || !now.hasTown(town)) {
            return BAD;
        }
        return now.wayOf(hall, town);
    }

    public int about(int of, int number, int what) {
        if (of == 0 && now.hasTown(number)) {
            return aboutTown(number, what);
        }
        if (of == 1 && now.hasHall(number)) {
            return aboutHall(number, what);
        }
        return BAD;
    }

    public int undo() {
        if (past.kept <= 0) {
            return NO;
        }
        past.giveBack(now);
        forgetAnswers();
        claims.dropLost();
        hand &= now.everyHall();
        return past.kept;
    }

    // ---- sets

    public int open(int set) {
        if (!within(set, 0, now.everyHall())) {
            return BAD;
        }
        hand = set;
        return Integer.bitCount(set);
    }

    public int opened() {
        return hand;
    }

    public int cost(int kind) {
        return isKind(kind) ? costs.costOf(kind, hand) : BAD;
    }

    public int goes(int kind, int town) {
        if (!within(kind, SUM, FINED) || !now.hasTown(town)) {
            return BAD;
        }
        return costs.hallFor(kind, hand, town);
    }

    public int worst(int kind) {
        if (kind == CLOSED) {
            return costs.worstToClose(hand);
        }
        return kind == RIVAL ? costs.worstRival(hand) : BAD;
    }

    public int least(int kind, int k) {
        return isQuestion(kind, k) ? costs.leastOf(kind, k) : BAD;
    }

    public int many(int kind, int k) {
        return isQuestion(kind, k) ? costs.bestUpTo(kind, k, now.everyHall()) : BAD;
    }

    public int best(int kind, int k, int i) {
        if (!isQuestion(kind, k) || i < 0) {
            return BAD;
        }
        int set = costs.bestAt(kind, k, i);
        if (set != NONE) {
            hand = set;
        }
        return set;
    }

    public int number(int kind, int k) {
        if (!isQuestion(kind, k)) {
            return BAD;
        }
        return costs.isBest(kind, k, hand) ? costs.bestUpTo(kind, k, hand) - 1 : NONE;
    }

    public int better(int kind, int n) {
        if (!isKind(kind) || !within(n, 1, MOST_TIMES)) {
            return BAD;
        }
        for (int times = 0; times < n; times++) {
            int next = costs.cheapestBeside(kind, hand);
            if (next == hand) {
                return times;
            }
            hand = next;
        }
        return n;
    }

    // ---- claims

    public int claim(int town, int v) {
        if (!now.hasTown(town) || !within(v, 0, MOST_CLAIM)) {
            return BAD;
        }
        int was = claims.values[town];
        claims.values[town] = v;
        return was;
    }

    public int claimed(int town) {
        return now.hasTown(town) ? claims.values[town] : BAD;
    }

    public int holds() {
        int hall = claims.firstBroken();
        return hall == NONE ? claims.together(now.everyTown()) : BROKEN - hall;
    }

    public int raise() {
        if (now.halls == 0) {
            return NO;
        }
        claims.raiseAll();
        return claims.together(now.everyTown());
    }

    public int fair() {
        if (now.halls == 0) {
            return NONE;
        }
        int all = now.everyTown();
        if (claims.together(all) != heaps.costOfHeap(all)) {
            return 1;
        }
        for (int heap = 1; heap <= all; heap++) {
            if (claims.together(heap) > heaps.costOfHeap(heap)) {
                return 2 + heap;
            }
        }
        return 0;
    }

    public long share(int town, int part) {
        if (!now.hasTown(town) || !within(part, 0, 1)) {
            return BAD;
        }
        if (now.halls == 0) {
            return NONE;
        }
        long above = heaps.addedInAllOrders(town);
        long below = FACTORIALS[now.towns];
        long common = commonDivisor(above, below);
        return (part == 0 ? above : below) / common;
    }

    // ---- on the line

    public int line(int kind, int k) {
        if (!isLineQuestion(kind, k)) {
            return BAD;
        }
        onLine.choose(kind, k);
        return onLine.least;
    }

    public int lineAt(int kind, int k, int i) {
        if (!isLineQuestion(kind, k) || i < 0) {
            return BAD;
        }
        onLine.choose(kind, k);
        return onLine.chosenAt(i);
    }

    public int count(int what) {
        switch (what) {
            case 0:
                return now.towns;
            case 1:
                return now.halls;
            case 2:
                return now.allPeople();
            case 3:
                return now.sheets();
            case 4:
                return Integer.bitCount(hand);
            case 5:
                return past.kept;
            case 6:
                return claims.together(now.everyTown());
            default:
                return BAD;
        }
    }

    // ---- what the calls share

    private static boolean within(int v, int from, int to) {
        return v >= from && v <= to;
    }

    private static boolean isKind(int kind) {
        return within(kind, SUM, RIVAL);
    }

    private static boolean isQuestion(int kind, int k) {
        return isKind(kind) && within(k, ANY_SIZE, MOST_HALLS);
    }

    private static boolean isLineQuestion(int kind, int k) {
        return within(kind, SUM, MOST) && within(k, 1, MOST_TOWNS);
    }

    private void keepForUndo() {
        past.keep(now);
        forgetAnswers();
    }

    private void forgetAnswers() {
        costs.forget();
        heaps.forget();
    }

    private int change(int[] row, int at, int v) {
        int was = row[at];
        keepForUndo();
        row[at] = v;
        return was;
    }

    private int aboutTown(int town, int what) {
        switch (what) {
            case 0:
                return now.crowds[town];
            case 1:
                return now.fines[town];
            case 2:
                return now.spots[town] + EDGE;
            default:
                return BAD;
        }
    }

    private int aboutHall(int hall, int what) {
        switch (what) {
            case 0:
                return now.prices[hall];
            case 1:
                return now.rooms[hall];
            case 2:
                return now.widths[hall];
            case 3:
                return now.lengths[hall];
            default:
                return BAD;
        }
    }

    private static long commonDivisor(long above, long below) {
        long a = above;
        long b = below;
        for (int step = 0; step < 200 && b != 0; step++) {
            long rest = a % b;
            a = b;
            b = rest;
        }
        return Math.max(1, Math.abs(a));
    }

    /** All that undo() can take back: TOWNS and HALLS. */
    private static final class Plan {
        int towns;
        int halls;
        final int[] crowds = new int[MOST_TOWNS];
        final int[] fines = new int[MOST_TOWNS];
        final int[] spots = new int[MOST_TOWNS];
        final int[] prices = new int[MOST_HALLS];
        final int[] rooms = new int[MOST_HALLS];
        final int[] widths = new int[MOST_HALLS];
        final int[] lengths = new int[MOST_HALLS];
        final int[] ways = new int[MOST_HALLS * MOST_TOWNS];

        void takeFrom(Plan other) {
            towns = other.towns;
            halls = other.halls;
            System.arraycopy(other.crowds, 0, crowds, 0, MOST_TOWNS);
            System.arraycopy(other.fines, 0, fines, 0, MOST_TOWNS);
            System.arraycopy(other.spots, 0, spots, 0, MOST_TOWNS);
            System.arraycopy(other.prices, 0, prices, 0, MOST_HALLS);
            System.arraycopy(other.rooms, 0, rooms, 0, MOST_HALLS);
            System.arraycopy(other.widths, 0, widths, 0, MOST_HALLS);
            System.arraycopy(other.lengths, 0, lengths, 0, MOST_HALLS);
            System.arraycopy(other.ways, 0, ways, 0, MOST_HALLS * MOST_TOWNS);
        }

        int addTown() {
            int town = towns;
            towns++;
            crowds[town] = 1;
            fines[town] = 0;
            spots[town] = 0;
            return town;
        }

        int addHall() {
            int hall = halls;
            halls++;
            prices[hall] = 0;
            rooms[hall] = MOST_ROOM;
            laySheet(hall, NONE, 0);
            return hall;
        }

        void laySheet(int hall, int width, int n) {
            widths[hall] = width;
            lengths[hall] = n;
            Arrays.fill(ways, slot(hall, 0), slot(hall + 1, 0), 0);
        }

        static int slot(int hall, int place) {
            return hall * MOST_TOWNS + place;
        }

        boolean hasTown(int town) {
            return town >= 0 && town < towns;
        }

        boolean hasHall(int hall) {
            return hall >= 0 && hall < halls;
        }

        boolean isMissing(int hall) {
            return widths[hall] == NONE;
        }

        // Taking away instead of adding: from + many could wrap around.
        boolean hasPlaces(int hall, int from, int many) {
            return from >= 0 && many >= 0 && many <= lengths[hall] - from;
        }

        int everyTown() {
            return (1 << towns) - 1;
        }

        int everyHall() {
            return (1 << halls) - 1;
        }

        int wayOf(int hall, int town) {
            return town < lengths[hall] ? ways[slot(hall, town)] : NO_WAY;
        }

        int tripOf(int hall, int town) {
            return crowds[town] * wayOf(hall, town);
        }

        int nearestOf(int set, int town) {
            int nearest = NONE;
            int least = 0;
            for (int hall = 0; hall < halls; hall++) {
                if (isIn(hall, set) && (nearest == NONE || wayOf(hall, town) < least)) {
                    nearest = hall;
                    least = wayOf(hall, town);
                }
            }
            return nearest;
        }

        static boolean isIn(int bit, int bits) {
            return ((bits >> bit) & 1) != 0;
        }

        int pricesOf(int set) {
            int together = 0;
            for (int hall = 0; hall < halls; hall++) {
                together += isIn(hall, set) ? prices[hall] : 0;
            }
            return together;
        }

        int allPeople() {
            int together = 0;
            for (int town = 0; town < towns; town++) {
                together += crowds[town];
            }
            return together;
        }

        int sheets() {
            int found = 0;
            for (int hall = 0; hall < halls; hall++) {
                found += isMissing(hall) ? 0 : 1;
            }
            return found;
        }
    }

    /** The plans ahead of the latest changes, the oldest first. */
    private static final class Past {
        private final Plan[] plans = new Plan[MOST_KEPT];
        int kept;

        Past() {
            for (int i = 0; i < MOST_KEPT; i++) {
                plans[i] = new Plan();
            }
        }

        void keep(Plan now) {
            if (kept >= MOST_KEPT) {
                dropOldest();
            }
            plans[kept].takeFrom(now);
            kept++;
        }

        // The oldest plan's object goes to the end, to be written over: a desk makes no plans later.
        private void dropOldest() {
            Plan oldest = plans[0];
            for (int i = 1; i < MOST_KEPT; i++) {
                plans[i - 1] = plans[i];
            }
            plans[MOST_KEPT - 1] = oldest;
            kept = MOST_KEPT - 1;
        }

        void giveBack(Plan now) {
            if (kept > 0) {
                kept--;
                now.takeFrom(plans[kept]);
            }
        }
    }

    /** COSTS of SETS by KINDS, each worked out when it is first asked for after a change. */
    private static final class Costs {
        private static final int UNKNOWN = -2;

        private final Plan plan;
        private final Rooming rooming;
        private final int[][] rows = new int[KINDS][ALL_SETS];
        private final int[] nearWays = new int[MOST_TOWNS];
        private boolean stale = true;

        Costs(Plan plan) {
            this.plan = plan;
            this.rooming = new Rooming(plan);
        }

        void forget() {
            stale = true;
            rooming.forget();
        }

        private void startAnew() {
            for (int kind = 0; kind < KINDS; kind++) {
                Arrays.fill(rows[kind], UNKNOWN);
            }
            stale = false;
        }

        int costOf(int kind, int set) {
            if (stale) {
                startAnew();
            }
            if (rows[kind][set] == UNKNOWN) {
                rows[kind][set] = workOut(kind, set);
            }
            return rows[kind][set];
        }

        private int workOut(int kind, int set) {
            switch (kind) {
                case SUM:
                    return isUnserved(set) ? NONE : sumOf(set);
                case MOST:
                    return isUnserved(set) ? NONE : mostOf(set);
                case PRICED:
                    return isUnserved(set) ? NONE : costOf(SUM, set) + plan.pricesOf(set);
                case ROOMED:
                    return roomedOf(set);
                case FINED:
                    return finedOf(set);
                case CLOSED:
                    return closedOf(set);
                default:
                    return rivalOf(set);
            }
        }

        private boolean isUnserved(int set) {
            return set == 0 && plan.towns > 0;
        }

        private void measure(int set) {
            for (int town = 0; town < plan.towns; town++) {
                int hall = plan.nearestOf(set, town);
                nearWays[town] = hall == NONE ? NO_WAY : plan.wayOf(hall, town);
            }
        }

        private int sumOf(int set) {
            measure(set);
            int together = 0;
            for (int town = 0; town < plan.towns; town++) {
                together += plan.crowds[town] * nearWays[town];
            }
            return together;
        }

        private int mostOf(int set) {
            measure(set);
            int greatest = 0;
            for (int town = 0; town < plan.towns; town++) {
                greatest = Math.max(greatest, nearWays[town]);
            }
            return greatest;
        }

        private int roomedOf(int set) {
            long filling = rooming.fillingOf(set);
            return filling == Rooming.NEVER ? NONE : Rooming.tripsOf(filling) + plan.pricesOf(set);
        }

        // The empty SET leaves all: no FINE reaches what one of its TOWNS would cost.
        private int finedOf(int set) {
            measure(set);
            int together = plan.pricesOf(set);
            for (int town = 0; town < plan.towns; town++) {
                together += Math.min(plan.fines[town], plan.crowds[town] * nearWays[town]);
            }
            return together;
        }

        private int closedOf(int set) {
            int hall = worstToClose(set);
            return hall == NONE ? NONE : costOf(SUM, set & ~(1 << hall));
        }

        int worstToClose(int set) {
            if (Integer.bitCount(set) < 2) {
                return NONE;
            }
            int worst = NONE;
            int most = NONE;
            for (int hall = 0; hall < plan.halls; hall++) {
                if (Plan.isIn(hall, set) && costOf(SUM, set & ~(1 << hall)) > most) {
                    worst = hall;
                    most = costOf(SUM, set & ~(1 << hall));
                }
            }
            return worst;
        }

        private int rivalOf(int set) {
            if (set == 0) {
                return NONE;
            }
            // Asking for the rival also measures the SET, which takenBy needs.
            int rival = worstRival(set);
            return rival == NONE ? 0 : takenBy(rival);
        }

        int worstRival(int set) {
            if (set == 0) {
                return NONE;
            }
            measure(set);
            int worst = NONE;
            int most = NONE;
            for (int hall = 0; hall < plan.halls; hall++) {
                if (!Plan.isIn(hall, set) && takenBy(hall) > most) {
                    worst = hall;
                    most = takenBy(hall);
                }
            }
            return worst;
        }

        private int takenBy(int rival) {
            int taken = 0;
            for (int town = 0; town < plan.towns; town++) {
                taken += plan.wayOf(rival, town) < nearWays[town] ? plan.crowds[town] : 0;
            }
            return taken;
        }

        int hallFor(int kind, int set, int town) {
            if (kind == ROOMED) {
                long filling = rooming.fillingOf(set);
                return filling == Rooming.NEVER ? NONE : Rooming.hallIn(filling, town);
            }
            int hall = plan.nearestOf(set, town);
            if (kind == FINED && hall != NONE && plan.fines[town] < plan.tripOf(hall, town)) {
                return NONE;
            }
            return hall;
        }

        // One that has a COST is less than one that has none.
        private static boolean isLess(int one, int other) {
            return one != NONE && (other == NONE || one < other);
        }

        private static boolean isOfSize(int k, int set) {
            return k == ANY_SIZE || Integer.bitCount(set) == k;
        }

        int leastOf(int kind, int k) {
            int least = NONE;
            for (int set = 0; set <= plan.everyHall(); set++) {
                if (isOfSize(k, set) && isLess(costOf(kind, set), least)) {
                    least = costOf(kind, set);
                }
            }
            return least;
        }

        boolean isBest(int kind, int k, int set) {
            int least = leastOf(kind, k);
            return least != NONE && isOfSize(k, set) && costOf(kind, set) == least;
        }

        int bestUpTo(int kind, int k, int last) {
            int least = leastOf(kind, k);
            int found = 0;
            for (int set = 0; least != NONE && set <= last; set++) {
                found += (isOfSize(k, set) && costOf(kind, set) == least) ? 1 : 0;
            }
            return found;
        }

        int bestAt(int kind, int k, int i) {
            int least = leastOf(kind, k);
            int ahead = 0;
            for (int set = 0; least != NONE && set <= plan.everyHall(); set++) {
                if (isOfSize(k, set) && costOf(kind, set) == least) {
                    if (ahead == i) {
                        return set;
                    }
                    ahead++;
                }
            }
            return NONE;
        }

        int cheapestBeside(int kind, int from) {
            int cheapest = from;
            for (int set = 0; set <= plan.everyHall(); set++) {
                if (isBeside(from, set) && isLess(costOf(kind, set), costOf(kind, cheapest))) {
                    cheapest = set;
                }
            }
            return cheapest;
        }

        private static boolean isBeside(int from, int set) {
            int unlike = Integer.bitCount(from ^ set);
            return unlike == 1 || (unlike == 2 && Integer.bitCount(from) == Integer.bitCount(set));
        }
    }

    /**
     * The choices of KIND 3. A filling is told as one number: what its trips cost above CODE_BITS bits, its
     * HALLS below them, TOWN 0's first. So of two fillings the one that the document prefers is the lesser
     * number, and fillings of two heaps of TOWNS are joined by adding.
     */
    private static final class Rooming {
        static final long NEVER = 1L << 60;
        private static final int HALL_BITS = 3, CODE_BITS = HALL_BITS * MOST_TOWNS;

        private final Plan plan;
        // tables[h][heap]: the best filling with a heap of the HALLS of the built SET from h on.
        private final long[][] tables = new long[MOST_HALLS + 1][ALL_HEAPS];
        private final long[] alone = new long[ALL_HEAPS];
        private final int[] peopleOf = new int[ALL_HEAPS];
        private final int[] guests = new int[MOST_HALLS];
        private int built = NONE;

        Rooming(Plan plan) {
            this.plan = plan;
        }

        static int tripsOf(long filling) {
            return (int) (filling >> CODE_BITS);
        }

        static int hallIn(long filling, int town) {
            return (int) ((filling >> shiftOf(town)) & ((1 << HALL_BITS) - 1));
        }

        private static int shiftOf(int town) {
            return HALL_BITS * (MOST_TOWNS - 1 - town);
        }

        void forget() {
            built = NONE;
        }

        long fillingOf(int set) {
            if (set == 0) {
                return plan.towns == 0 ? 0 : NEVER;
            }
            long nearest = nearestFilling(set);
            return nearest == NEVER ? bestFilling(set) : nearest;
        }

        private long tripTo(int hall, int town) {
            return ((long) plan.tripOf(hall, town) << CODE_BITS) + ((long) hall << shiftOf(town));
        }

        // Where rooms are wide enough for all to go to the nearest, nothing is better and no tables are due.
        private long nearestFilling(int set) {
            long filling = 0;
            Arrays.fill(guests, 0);
            for (int town = 0; town < plan.towns; town++) {
                int hall = plan.nearestOf(set, town);
                if (hall == NONE || guests[hall] + plan.crowds[town] > plan.rooms[hall]) {
                    return NEVER;
                }
                guests[hall] += plan.crowds[town];
                filling += tripTo(hall, town);
            }
            return filling;
        }

        private long bestFilling(int set) {
            if (built == NONE) {
                layGround();
            }
            for (int hall = plan.halls - 1; hall >= 0; hall--) {
                // SETS are mostly asked in order: what they share in their upper HALLS is built once.
                if (set >> hall != built >> hall) {
                    layTable(hall, Plan.isIn(hall, set));
                }
            }
            built = set;
            return tables[0][plan.everyTown()];
        }

        private void layGround() {
            long[] ground = tables[plan.halls];
            Arrays.fill(ground, NEVER);
            ground[0] = 0;
            peopleOf[0] = 0;
            for (int town = 0; town < plan.towns; town++) {
                int bit = 1 << town;
                for (int heap = 0; heap < bit; heap++) {
                    peopleOf[bit + heap] = peopleOf[heap] + plan.crowds[town];
                }
            }
        }

        private void layTable(int hall, boolean opened) {
            System.arraycopy(tables[hall + 1], 0, tables[hall], 0, ALL_HEAPS);
            if (!opened) {
                return;
            }
            fillAlone(hall);
            int all = plan.everyTown();
            for (int heap = 1; heap <= all; heap++) {
                if (peopleOf[heap] <= plan.rooms[hall]) {
                    admit(hall, heap, all & ~heap);
                }
            }
        }

        private void fillAlone(int hall) {
            alone[0] = 0;
            for (int town = 0; town < plan.towns; town++) {
                int bit = 1 << town;
                long trip = tripTo(hall, town);
                for (int heap = 0; heap < bit; heap++) {
                    alone[bit + heap] = alone[heap] + trip;
                }
            }
        }

        private void admit(int hall, int heap, int others) {
            long[] before = tables[hall + 1];
            long[] after = tables[hall];
            after[heap | others] = Math.min(after[heap | others], before[others] + alone[heap]);
            // Nothing is built upon HALL 0's table: there only the heap of all TOWNS is asked for.
            if (hall == 0) {
                return;
            }
            for (int rest = others; rest > 0;) {
                rest = (rest - 1) & others;
                after[heap | rest] = Math.min(after[heap | rest], before[rest] + alone[heap]);
            }
        }
    }

    /** CLAIMS; those of TOWNS that are not there are 0. */
    private static final class Claims {
        private final Plan plan;
        final int[] values = new int[MOST_TOWNS];
        private final int[] left = new int[MOST_HALLS];

        Claims(Plan plan) {
            this.plan = plan;
        }

        void dropLost() {
            Arrays.fill(values, plan.towns, MOST_TOWNS, 0);
        }

        int together(int heap) {
            int sum = 0;
            for (int town = 0; town < plan.towns; town++) {
                sum += Plan.isIn(town, heap) ? values[town] : 0;
            }
            return sum;
        }

        int firstBroken() {
            for (int hall = 0; hall < plan.halls; hall++) {
                int above = 0;
                for (int town = 0; town < plan.towns; town++) {
                    above += Math.max(0, values[town] - plan.tripOf(hall, town));
                }
                if (above > plan.prices[hall]) {
                    return hall;
                }
            }
            return NONE;
        }

        void raiseAll() {
            Arrays.fill(values, 0);
            System.arraycopy(plan.prices, 0, left, 0, plan.halls);
            int rounds = MOST_ROUNDS;
            int free = freeTowns();
            for (int step = 0; step < MOST_ROUNDS && rounds > 0 && free != 0; step++) {
                rounds -= raiseSome(free, rounds);
                free = freeTowns();
            }
        }

        // What a HALL has left never grows, so a TOWN that is stopped once is stopped for good.
        private int freeTowns() {
            int free = 0;
            for (int town = 0; town < plan.towns; town++) {
                free |= isStopped(town) ? 0 : 1 << town;
            }
            return free;
        }

        private boolean isStopped(int town) {
            for (int hall = 0; hall < plan.halls; hall++) {
                if (left[hall] == 0 && pays(town, hall)) {
                    return true;
                }
            }
            return false;
        }

        private boolean pays(int town, int hall) {
            return values[town] >= plan.tripOf(hall, town);
        }

        /** One round, or as many as go alike, which are done at once: how many. */
        private int raiseSome(int free, int most) {
            int alike = alikeRounds(free, most);
            for (int town = 0; town < plan.towns; town++) {
                // In a round that stands alone a TOWN may be stopped by those ahead of it.
                if (Plan.isIn(town, free) && (alike > 0 || !isStopped(town))) {
                    raiseBy(town, Math.max(1, alike));
                }
            }
            return Math.max(1, alike);
        }

        /** How many rounds raise all free TOWNS, each at the cost of the same HALLS all the while. */
        private int alikeRounds(int free, int most) {
            int rounds = most;
            for (int town = 0; town < plan.towns; town++) {
                if (Plan.isIn(town, free)) {
                    rounds = Math.min(rounds, roundsTillPaying(town, most));
                }
            }
            for (int hall = 0; hall < plan.halls; hall++) {
                int payers = payersOf(hall, free);
                if (payers > 0) {
                    rounds = Math.min(rounds, left[hall] / payers);
                }
            }
            return rounds;
        }

        private int roundsTillPaying(int town, int most) {
            int rounds = most;
            for (int hall = 0; hall < plan.halls; hall++) {
                if (!pays(town, hall)) {
                    rounds = Math.min(rounds, plan.tripOf(hall, town) - values[town]);
                }
            }
            return rounds;
        }

        private int payersOf(int hall, int free) {
            int payers = 0;
            for (int town = 0; town < plan.towns; town++) {
                payers += (Plan.isIn(town, free) && pays(town, hall)) ? 1 : 0;
            }
            return payers;
        }

        private void raiseBy(int town, int v) {
            for (int hall = 0; hall < plan.halls; hall++) {
                left[hall] -= pays(town, hall) ? v : 0;
            }
            values[town] += v;
        }
    }

    /** What HEAPS of TOWNS cost, worked out when it is first asked for after a change. */
    private static final class Heaps {
        private final Plan plan;
        private final int[] leastCosts = new int[ALL_HEAPS];
        private final int[] byOneSet = new int[ALL_HEAPS];
        private boolean stale = true;

        Heaps(Plan plan) {
            this.plan = plan;
        }

        void forget() {
            stale = true;
        }

        int costOfHeap(int heap) {
            if (stale) {
                workOutAll();
                stale = false;
            }
            return leastCosts[heap];
        }

        private void workOutAll() {
            Arrays.fill(leastCosts, Integer.MAX_VALUE);
            for (int set = 1; set <= plan.everyHall(); set++) {
                priceHeaps(set);
                for (int heap = 1; heap <= plan.everyTown(); heap++) {
                    leastCosts[heap] = Math.min(leastCosts[heap], byOneSet[heap]);
                }
            }
            leastCosts[0] = 0;
        }

        private void priceHeaps(int set) {
            byOneSet[0] = plan.pricesOf(set);
            for (int town = 0; town < plan.towns; town++) {
                int bit = 1 << town;
                int hall = plan.nearestOf(set, town);
                int trip = hall == NONE ? 0 : plan.tripOf(hall, town);
                for (int heap = 0; heap < bit; heap++) {
                    byOneSet[bit + heap] = byOneSet[heap] + trip;
                }
            }
        }

        /** The SHARE of a TOWN times the number of all orders: what it adds in each of them, together. */
        long addedInAllOrders(int town) {
            long together = 0;
            for (int ahead = 0; ahead <= plan.everyTown(); ahead++) {
                if (!Plan.isIn(town, ahead)) {
                    int before = Integer.bitCount(ahead);
                    int behind = plan.towns - 1 - before;
                    long orders = (long) FACTORIALS[before] * FACTORIALS[behind];
                    together += orders * (costOfHeap(ahead | 1 << town) - costOfHeap(ahead));
                }
            }
            return together;
        }
    }

    /** Choices of PLACES on the line. */
    private static final class Line {
        private final Plan plan;
        private final int[] spots = new int[MOST_TOWNS];
        private int unlike;
        private int chosen;
        int least;

        Line(Plan plan) {
            this.plan = plan;
        }

        /**
         * A choice is told as bits, the least PLACE in the highest bit: of choices of one size the one that
         * comes first, as its PLACES are compared, is then the greatest number. Without TOWNS there is no
         * choice, and the least stays NONE.
         */
        void choose(int kind, int k) {
            gatherSpots();
            int size = Math.min(k, unlike);
            chosen = 0;
            least = NONE;
            for (int choice = (1 << unlike) - 1; choice > 0; choice--) {
                if (Integer.bitCount(choice) == size) {
                    int found = kind == SUM ? sumFor(choice) : mostFor(choice);
                    if (least == NONE || found < least) {
                        least = found;
                        chosen = choice;
                    }
                }
            }
        }

        private void gatherSpots() {
            unlike = 0;
            for (int town = 0; town < plan.towns; town++) {
                insertSpot(plan.spots[town]);
            }
        }

        private void insertSpot(int x) {
            int at = 0;
            while (at < unlike && spots[at] < x) {
                at++;
            }
            if (at < unlike && spots[at] == x) {
                return;
            }
            for (int i = unlike; i > at; i--) {
                spots[i] = spots[i - 1];
            }
            spots[at] = x;
            unlike++;
        }

        private boolean isChosen(int choice, int i) {
            return Plan.isIn(unlike - 1 - i, choice);
        }

        private int nearestOn(int choice, int x) {
            int nearest = 2 * EDGE;
            for (int i = 0; i < unlike; i++) {
                if (isChosen(choice, i)) {
                    nearest = Math.min(nearest, Math.abs(spots[i] - x));
                }
            }
            return nearest;
        }

        private int sumFor(int choice) {
            int together = 0;
            for (int town = 0; town < plan.towns; town++) {
                together += plan.crowds[town] * nearestOn(choice, plan.spots[town]);
            }
            return together;
        }

        private int mostFor(int choice) {
            int greatest = 0;
            for (int town = 0; town < plan.towns; town++) {
                greatest = Math.max(greatest, nearestOn(choice, plan.spots[town]));
            }
            return greatest;
        }

        int chosenAt(int i) {
            int ahead = 0;
            for (int at = 0; at < unlike; at++) {
                if (isChosen(chosen, at)) {
                    if (ahead == i) {
                        return spots[at] + EDGE;
                    }
                    ahead++;
                }
            }
            return NONE;
        }
    }
}

import java.util.ArrayDeque;
import java.util.ArrayList;
import java.util.Arrays;
import java.util.Deque;
import java.util.List;
import java.util.TreeSet;

/**
 * The document once more, as literally as it can be written and without a thought for speed: every choice is
 * tried, every order of towns is walked. OracleTest holds HallDesk against it.
 */
final class PlainDesk {
    static final int NONE = -1, BAD = -3, NO = -4, FULL = -5, NOTHING = -11, INDEX = -13, SIZE = -14;

    private static final class Town {
        int people = 1, fine = 0, place = 0;

        Town twin() {
            Town t = new Town();
            t.people = people;
            t.fine = fine;
            t.place = place;
            return t;
        }
    }

    private static final class Hall {
        int price = 0, room = 200, width = NONE;
        int[] ways = null;

        Hall twin() {
            Hall h = new Hall();
            h.price = price;
            h.room = room;
            h.width = width;
            h.ways = ways == null ? null : ways.clone();
            return h;
        }
    }

    private static final class State {
        final List<Town> towns = new ArrayList<>();
        final List<Hall> halls = new ArrayList<>();

        State twin() {
            State s = new State();
            towns.forEach(t -> s.towns.add(t.twin()));
            halls.forEach(h -> s.halls.add(h.twin()));
            return s;
        }
    }

    private State state = new State();
    private final Deque<State> kept = new ArrayDeque<>();
    private final int[] claims = new int[8];
    private int hand = 0;

    private int towns() {
        return state.towns.size();
    }

    private int halls() {
        return state.halls.size();
    }

    private boolean noTown(int t) {
        return t < 0 || t >= towns();
    }

    private boolean noHall(int h) {
        return h < 0 || h >= halls();
    }

    private void keep() {
        kept.addLast(state.twin());
        if (kept.size() > 8) {
            kept.removeFirst();
        }
    }

    int town() {
        if (towns() == 8) {
            return FULL;
        }
        keep();
        state.towns.add(new Town());
        return towns() - 1;
    }

    int hall() {
        if (halls() == 7) {
            return FULL;
        }
        keep();
        state.halls.add(new Hall());
        return halls() - 1;
    }

    int people(int t, int n) {
        if (noTown(t) || n < 1 || n > 20) {
            return BAD;
        }
        keep();
        int was = state.towns.get(t).people;
        state.towns.get(t).people = n;
        return was;
    }

    int fine(int t, int v) {
        if (noTown(t) || v < 0 || v > 100000) {
            return BAD;
        }
        keep();
        int was = state.towns.get(t).fine;
        state.towns.get(t).fine = v;
        return was;
    }

    int place(int t, int x) {
        if (noTown(t) || x < -1000 || x > 1000) {
            return BAD;
        }
        keep();
        state.towns.get(t).place = x;
        return 0;
    }

    int price(int h, int v) {
        if (noHall(h) || v < 0 || v > 100000) {
            return BAD;
        }
        keep();
        int was = state.halls.get(h).price;
        state.halls.get(h).price = v;
        return was;
    }

    int room(int h, int v) {
        if (noHall(h) || v < 0 || v > 200) {
            return BAD;
        }
        keep();
        int was = state.halls.get(h).room;
        state.halls.get(h).room = v;
        return was;
    }

    int sheet(int h, int width, int n) {
        if (noHall(h) || width < 0 || width > 2 || n > 8) {
            return BAD;
        }
        if (n < 0) {
            return SIZE;
        }
        keep();
        state.halls.get(h).width = width;
        state.halls.get(h).ways = new int[n];
        return n;
    }

    int lose(int h) {
        if (noHall(h)) {
            return BAD;
        }
        if (state.halls.get(h).ways == null) {
            return NOTHING;
        }
        keep();
        int n = state.halls.get(h).ways.length;
        state.halls.get(h).ways = null;
        state.halls.get(h).width = NONE;
        return n;
    }

    int way(int h, int place, int v) {
        if (noHall(h)) {
            return BAD;
        }
        Hall hall = state.halls.get(h);
        if (hall.ways == null) {
            return NOTHING;
        }
        if (place < 0 || place >= hall.ways.length) {
            return INDEX;
        }
        if (v < 0 || v > (hall.width == 0 ? 127 : 1000)) {
            return BAD;
        }
        keep();
        int was = state.halls.get(h).ways[place];
        state.halls.get(h).ways[place] = v;
        return was;
    }

    int copy(int h, int place, int to, int at, int many) {
        if (noHall(h) || noHall(to)) {
            return BAD;
        }
        Hall from = state.halls.get(h), into = state.halls.get(to);
        if (from.ways == null || into.ways == null) {
            return NOTHING;
        }
        if (from.width != into.width) {
            return NO;
        }
        if (place < 0 || at < 0 || many < 0 || (long) place + many > from.ways.length
                || (long) at + many > into.ways.length) {
            return INDEX;
        }
        keep();
        int[] were = from.ways.clone();
        for (int i = 0; i < many; i++) {
            into.ways[at + i] = were[place + i];
        }
        return many;
    }

    private int wayTo(int h, int t) {
        int[] ways = state.halls.get(h).ways;
        return ways == null || t >= ways.length ? 1000000 : ways[t];
    }

    int far(int h, int t) {
        return noHall(h) || noTown(t) ? BAD : wayTo(h, t);
    }

    int about(int of, int number, int what) {
        if (of == 0 && !noTown(number)) {
            Town t = state.towns.get(number);
            return what == 0 ? t.people : what == 1 ? t.fine : what == 2 ? t.place + 1000 : BAD;
        }
        if (of == 1 && !noHall(number)) {
            Hall h = state.halls.get(number);
            int places = h.ways == null ? 0 : h.ways.length;
            return what == 0 ? h.price : what == 1 ? h.room : what == 2 ? h.width : what == 3 ? places : BAD;
        }
        return BAD;
    }

    int undo() {
        if (kept.isEmpty()) {
            return NO;
        }
        state = kept.removeLast();
        for (int t = towns(); t < 8; t++) {
            claims[t] = 0;
        }
        for (int h = halls(); h < 7; h++) {
            hand &= ~(1 << h);
        }
        return kept.size();
    }

    int open(int set) {
        for (int bit = 0; bit < 32; bit++) {
            if ((set >>> bit & 1) == 1 && noHall(bit)) {
                return BAD;
            }
        }
        hand = set;
        return Integer.bitCount(set);
    }

    int opened() {
        return hand;
    }

    private static boolean has(int set, int h) {
        return (set >> h & 1) == 1;
    }

    private int leastWay(int set, int t) {
        int least = Integer.MAX_VALUE;
        for (int h = 0; h < halls(); h++) {
            if (has(set, h)) {
                least = Math.min(least, wayTo(h, t));
            }
        }
        return least;
    }

    private int sum(int set) {
        int all = 0;
        for (int t = 0; t < towns(); t++) {
            all += state.towns.get(t).people * leastWay(set, t);
        }
        return all;
    }

    private int prices(int set) {
        int all = 0;
        for (int h = 0; h < halls(); h++) {
            all += has(set, h) ? state.halls.get(h).price : 0;
        }
        return all;
    }

    private int roomBest;
    private int[] roomChoice;

    // Towns go to the lesser halls first, and only what is truly cheaper replaces what was found.
    private void tryRooms(int set, int t, int soFar, int[] goes, int[] inside) {
        if (roomBest != NONE && soFar >= roomBest) {
            return;
        }
        if (t == towns()) {
            roomBest = soFar;
            roomChoice = goes.clone();
            return;
        }
        int people = state.towns.get(t).people;
        for (int h = 0; h < halls(); h++) {
            if (has(set, h) && inside[h] + people <= state.halls.get(h).room) {
                inside[h] += people;
                goes[t] = h;
                tryRooms(set, t + 1, soFar + people * wayTo(h, t), goes, inside);
                inside[h] -= people;
            }
        }
    }

    private int roomed(int set) {
        roomBest = NONE;
        roomChoice = null;
        tryRooms(set, 0, 0, new int[8], new int[7]);
        return roomBest == NONE ? NONE : roomBest + prices(set);
    }

    private int taken(int set, int rival) {
        int all = 0;
        for (int t = 0; t < towns(); t++) {
            all += wayTo(rival, t) < leastWay(set, t) ? state.towns.get(t).people : 0;
        }
        return all;
    }

    private int costOf(int kind, int set) {
        int size = Integer.bitCount(set);
        if (size == 0 && (kind >= 5 || kind <= 3 && towns() > 0)) {
            return NONE;
        }
        int result = 0;
        switch (kind) {
            case 0:
                return sum(set);
            case 1:
                for (int t = 0; t < towns(); t++) {
                    result = Math.max(result, leastWay(set, t));
                }
                return result;
            case 2:
                return sum(set) + prices(set);
            case 3:
                return roomed(set);
            case 4:
                for (int t = 0; t < towns(); t++) {
                    int fine = state.towns.get(t).fine;
                    result += size == 0 ? fine : Math.min(fine, state.towns.get(t).people * leastWay(set, t));
                }
                return result + prices(set);
            case 5:
                if (size < 2) {
                    return NONE;
                }
                for (int h = 0; h < halls(); h++) {
                    if (has(set, h)) {
                        result = Math.max(result, sum(set ^ 1 << h));
                    }
                }
                return result;
            default:
                for (int h = 0; h < halls(); h++) {
                    if (!has(set, h)) {
                        result = Math.max(result, taken(set, h));
                    }
                }
                return result;
        }
    }

    private static boolean badKind(int kind) {
        return kind < 0 || kind > 6;
    }

    int cost(int kind) {
        return badKind(kind) ? BAD : costOf(kind, hand);
    }

    int goes(int kind, int t) {
        if (kind < 0 || kind > 4 || noTown(t)) {
            return BAD;
        }
        if (costOf(kind, hand) == NONE || hand == 0) {
            return NONE;
        }
        if (kind == 3) {
            return roomChoice[t];
        }
        int least = leastWay(hand, t);
        if (kind == 4 && state.towns.get(t).fine < state.towns.get(t).people * least) {
            return NONE;
        }
        for (int h = 0; h < halls(); h++) {
            if (has(hand, h) && wayTo(h, t) == least) {
                return h;
            }
        }
        return NONE;
    }

    int worst(int kind) {
        if (kind != 5 && kind != 6) {
            return BAD;
        }
        int cost = costOf(kind, hand);
        if (cost == NONE) {
            return NONE;
        }
        for (int h = 0; h < halls(); h++) {
            if (kind == 5 && has(hand, h) && sum(hand ^ 1 << h) == cost) {
                return h;
            }
            if (kind == 6 && !has(hand, h) && taken(hand, h) == cost) {
                return h;
            }
        }
        return NONE;
    }

    private List<Integer> bests(int kind, int k) {
        List<Integer> sets = new ArrayList<>();
        int least = NONE;
        for (int set = 0; set < 1 << halls(); set++) {
            int cost = k == -1 || Integer.bitCount(set) == k ? costOf(kind, set) : NONE;
            if (cost != NONE && (least == NONE || cost < least)) {
                least = cost;
                sets.clear();
            }
            if (cost != NONE && cost == least) {
                sets.add(set);
            }
        }
        return sets;
    }

    private static boolean badQuestion(int kind, int k) {
        return badKind(kind) || k < -1 || k > 7;
    }

    int least(int kind, int k) {
        if (badQuestion(kind, k)) {
            return BAD;
        }
        List<Integer> sets = bests(kind, k);
        return sets.isEmpty() ? NONE : costOf(kind, sets.get(0));
    }

    int many(int kind, int k) {
        return badQuestion(kind, k) ? BAD : bests(kind, k).size();
    }

    int best(int kind, int k, int i) {
        if (badQuestion(kind, k) || i < 0) {
            return BAD;
        }
        List<Integer> sets = bests(kind, k);
        if (i >= sets.size()) {
            return NONE;
        }
        hand = sets.get(i);
        return hand;
    }

    int number(int kind, int k) {
        return badQuestion(kind, k) ? BAD : bests(kind, k).indexOf(hand);
    }

    private List<Integer> beside(int set) {
        TreeSet<Integer> all = new TreeSet<>();
        for (int h = 0; h < halls(); h++) {
            all.add(set ^ 1 << h);
            for (int other = 0; other < halls(); other++) {
                if (has(set, h) && !has(set, other)) {
                    all.add(set ^ 1 << h ^ 1 << other);
                }
            }
        }
        return new ArrayList<>(all);
    }

    int better(int kind, int n) {
        if (badKind(kind) || n < 1 || n > 60) {
            return BAD;
        }
        int times = 0;
        while (times < n) {
            int found = NONE, least = costOf(kind, hand);
            for (int set : beside(hand)) {
                int cost = costOf(kind, set);
                if (cost != NONE && (least == NONE || cost < least)) {
                    least = cost;
                    found = set;
                }
            }
            if (found == NONE) {
                break;
            }
            hand = found;
            times++;
        }
        return times;
    }

    int claim(int t, int v) {
        if (noTown(t) || v < 0 || v > 1000000) {
            return BAD;
        }
        int was = claims[t];
        claims[t] = v;
        return was;
    }

    int claimed(int t) {
        return noTown(t) ? BAD : claims[t];
    }

    private int together(int heap) {
        int all = 0;
        for (int t = 0; t < towns(); t++) {
            all += has(heap, t) ? claims[t] : 0;
        }
        return all;
    }

    private int broken() {
        for (int h = 0; h < halls(); h++) {
            long above = 0;
            for (int t = 0; t < towns(); t++) {
                above += Math.max(0, claims[t] - state.towns.get(t).people * wayTo(h, t));
            }
            if (above > state.halls.get(h).price) {
                return h;
            }
        }
        return NONE;
    }

    int holds() {
        int h = broken();
        return h == NONE ? together(255) : -100 - h;
    }

    int raise() {
        if (halls() == 0) {
            return NO;
        }
        Arrays.fill(claims, 0);
        boolean raised = true;
        for (int round = 0; round < 2000 && raised; round++) {
            raised = false;
            for (int t = 0; t < towns(); t++) {
                claims[t]++;
                if (broken() == NONE) {
                    raised = true;
                } else {
                    claims[t]--;
                }
            }
        }
        return together(255);
    }

    private int heapCost(int heap) {
        if (heap == 0) {
            return 0;
        }
        int least = Integer.MAX_VALUE;
        for (int set = 1; set < 1 << halls(); set++) {
            int cost = prices(set);
            for (int t = 0; t < towns(); t++) {
                cost += has(heap, t) ? state.towns.get(t).people * leastWay(set, t) : 0;
            }
            least = Math.min(least, cost);
        }
        return least;
    }

    int fair() {
        if (halls() == 0) {
            return NONE;
        }
        int all = (1 << towns()) - 1;
        if (together(all) != heapCost(all)) {
            return 1;
        }
        for (int heap = 0; heap <= all; heap++) {
            if (together(heap) > heapCost(heap)) {
                return 2 + heap;
            }
        }
        return 0;
    }

    private long added;
    private long orders;

    private void walkOrders(int town, int ahead, int[] heapCosts) {
        if (has(ahead, town)) {
            return;
        }
        for (int t = 0; t < towns(); t++) {
            if (!has(ahead, t) && t != town) {
                walkOrders(town, ahead | 1 << t, heapCosts);
            }
        }
        long behind = 1;
        for (int i = 2; i < towns() - Integer.bitCount(ahead); i++) {
            behind *= i;
        }
        orders += behind;
        added += behind * (heapCosts[ahead | 1 << town] - heapCosts[ahead]);
    }

    long share(int town, int part) {
        if (noTown(town) || part < 0 || part > 1) {
            return BAD;
        }
        if (halls() == 0) {
            return NONE;
        }
        int[] heapCosts = new int[1 << towns()];
        for (int heap = 0; heap < heapCosts.length; heap++) {
            heapCosts[heap] = heapCost(heap);
        }
        added = 0;
        orders = 0;
        walkOrders(town, 0, heapCosts);
        long above = added, below = orders;
        for (long d = 2; d <= below; d++) {
            while (above % d == 0 && below % d == 0) {
                above /= d;
                below /= d;
            }
        }
        return part == 0 ? above : below;
    }

    private int lineLeast;
    private List<Integer> lineChoice;

    private int lineCost(int kind, List<Integer> places) {
        int result = 0;
        for (Town t : state.towns) {
            int near = Integer.MAX_VALUE;
            for (int p : places) {
                near = Math.min(near, Math.abs(p - t.place));
            }
            result = kind == 0 ? result + t.people * near : Math.max(result, near);
        }
        return result;
    }

    private void tryLine(int kind, int k, List<Integer> all, int from, List<Integer> places) {
        if (places.size() == Math.min(k, all.size())) {
            int cost = lineCost(kind, places);
            if (lineChoice == null || cost < lineLeast) {
                lineLeast = cost;
                lineChoice = new ArrayList<>(places);
            }
            return;
        }
        for (int i = from; i < all.size(); i++) {
            places.add(all.get(i));
            tryLine(kind, k, all, i + 1, places);
            places.remove(places.size() - 1);
        }
    }

    private void seekLine(int kind, int k) {
        TreeSet<Integer> places = new TreeSet<>();
        state.towns.forEach(t -> places.add(t.place));
        lineChoice = null;
        tryLine(kind, k, new ArrayList<>(places), 0, new ArrayList<>());
    }

    int line(int kind, int k) {
        if (kind < 0 || kind > 1 || k < 1 || k > 8) {
            return BAD;
        }
        if (towns() == 0) {
            return NONE;
        }
        seekLine(kind, k);
        return lineLeast;
    }

    int lineAt(int kind, int k, int i) {
        if (kind < 0 || kind > 1 || k < 1 || k > 8 || i < 0) {
            return BAD;
        }
        seekLine(kind, k);
        return i < lineChoice.size() ? lineChoice.get(i) + 1000 : NONE;
    }

    int count(int what) {
        switch (what) {
            case 0:
                return towns();
            case 1:
                return halls();
            case 2:
                return state.towns.stream().mapToInt(t -> t.people).sum();
            case 3:
                return (int) state.halls.stream().filter(h -> h.ways != null).count();
            case 4:
                return Integer.bitCount(hand);
            case 5:
                return kept.size();
            case 6:
                return together(255);
            default:
                return BAD;
        }
    }
}

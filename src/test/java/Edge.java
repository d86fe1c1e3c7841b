/**
 * What the tests of boundary cases share: desks to begin with, all that can be seen of a desk, and the check that
 * a refused call changes nothing. No desk is asked more than 512 times: what it would answer then is free.
 */
final class Edge {
    static final int NONE = HallDesk.NONE, BAD = HallDesk.BAD, NO = HallDesk.NO, FULL = HallDesk.FULL,
            NOTHING = HallDesk.NOTHING, INDEX = HallDesk.INDEX, SIZE = HallDesk.SIZE;
    static final int HIGH = Integer.MAX_VALUE, LOW = Integer.MIN_VALUE;
    static final int NO_WAY = 1000000;

    interface Maker {
        HallDesk desk();
    }

    interface Call {
        long on(HallDesk x);
    }

    /** A call with one of its numbers left open. */
    interface Setting {
        long on(HallDesk x, int v);
    }

    private final Due due;

    Edge(Due due) {
        this.due = due;
    }

    static HallDesk desk(int towns, int halls) {
        HallDesk x = new HallDesk();
        for (int i = 0; i < towns; i++) {
            x.town();
        }
        for (int i = 0; i < halls; i++) {
            x.hall();
        }
        return x;
    }

    /** A desk with a hall for each row of ways. */
    static HallDesk withWays(int towns, int[]... ways) {
        HallDesk x = desk(towns, 0);
        for (int h = 0; h < ways.length; h++) {
            x.hall();
            x.sheet(h, 1, ways[h].length);
            for (int t = 0; t < ways[h].length; t++) {
                x.way(h, t, ways[h][t]);
            }
        }
        return x;
    }

    static HallDesk withPeople(HallDesk x, int... people) {
        for (int t = 0; t < people.length; t++) {
            x.people(t, people[t]);
        }
        return x;
    }

    static HallDesk withPrices(HallDesk x, int... prices) {
        for (int h = 0; h < prices.length; h++) {
            x.price(h, prices[h]);
        }
        return x;
    }

    static HallDesk withClaims(HallDesk x, int... claims) {
        for (int t = 0; t < claims.length; t++) {
            x.claim(t, claims[t]);
        }
        return x;
    }

    static HallDesk withPlaces(int... places) {
        HallDesk x = desk(places.length, 0);
        for (int t = 0; t < places.length; t++) {
            x.place(t, places[t]);
        }
        return x;
    }

    static HallDesk inHand(HallDesk x, int set) {
        x.open(set);
        return x;
    }

    /**
     * Three towns; four halls: 0 and 3 with sheets of three shorts, 1 with one of two bytes, 2 without; halls 0 and
     * 3 in hand. More changes than are kept, the latest 8 of eight sorts.
     */
    static HallDesk rich() {
        HallDesk x = desk(3, 4);
        x.sheet(0, 1, 3);
        x.sheet(1, 0, 2);
        x.sheet(3, 1, 3);
        x.way(0, 0, 7);
        x.way(0, 2, 900);
        x.way(1, 0, 5);
        x.way(1, 1, 127);
        x.way(3, 0, 2);
        withPeople(x, 4, 20, 2);
        withPrices(x, 9, 6, 0, 14);
        x.sheet(2, 2, 1);
        x.fine(0, 11);
        x.place(0, -9);
        x.place(1, 12);
        withClaims(x, 10, 21, 5);
        x.open(9);
        x.lose(2);
        x.people(2, 3);
        x.fine(1, 70);
        x.place(2, 12);
        x.price(3, 15);
        x.room(0, 24);
        x.way(0, 1, 3);
        x.copy(0, 1, 3, 1, 2);
        return x;
    }

    /** Eight towns, seven halls: no more fit. */
    static HallDesk full() {
        return desk(8, 7);
    }

    static HallDesk undone(HallDesk x, int times) {
        for (int i = 0; i < times; i++) {
            x.undo();
        }
        return x;
    }

    /** The answers of all calls that only look: some 200 at most, the same ones for any two desks. */
    static String seen(HallDesk x) {
        StringBuilder all = new StringBuilder();
        all.append("in hand ").append(x.opened()).append(" counts");
        for (int what = 0; what <= 6; what++) {
            all.append(' ').append(x.count(what));
        }
        for (int t = 0; t < 8; t++) {
            all.append(" town ").append(t).append(": ").append(x.claimed(t));
            all.append(' ').append(x.share(t, 0)).append('/').append(x.share(t, 1)).append(' ').append(x.goes(3, t));
            for (int what = 0; what <= 2; what++) {
                all.append(' ').append(x.about(0, t, what));
            }
        }
        for (int h = 0; h < 7; h++) {
            all.append(" hall ").append(h).append(':');
            for (int what = 0; what <= 3; what++) {
                all.append(' ').append(x.about(1, h, what));
            }
            for (int t = 0; t < 8; t++) {
                all.append(' ').append(x.far(h, t));
            }
        }
        for (int kind = 0; kind <= 6; kind++) {
            all.append(" kind ").append(kind).append(": ").append(x.cost(kind)).append(' ').append(x.least(kind, -1));
        }
        all.append(" line ").append(x.line(0, 1)).append(' ').append(x.line(1, 2)).append(' ').append(x.lineAt(0, 1, 0));
        return all.append(" holds ").append(x.holds()).append(" fair ").append(x.fair()).toString();
    }

    void alike(String what, HallDesk got, HallDesk want) {
        String one = seen(got);
        String other = seen(want);
        due.isTrue(what + "\n  seen: " + one + "\n  due:  " + other + "\n ", one.equals(other));
    }

    /** A call answers so, and all that can be seen stays as it was, also when changes are taken back then. */
    void leavesAll(String call, Maker maker, Call made, long want) {
        for (int back = 0; back <= 9; back++) {
            HallDesk tried = maker.desk();
            HallDesk other = maker.desk();
            due.is(call, made.on(tried), want);
            for (int i = 0; i < back; i++) {
                due.is(call + ", then undo()", tried.undo(), other.undo());
            }
            alike(call + " changes nothing; after undo() " + back + " times", tried, other);
        }
    }

    /** A number is taken from least to greatest; the first one on either side, and the farthest ones, are refused. */
    void range(String name, Maker maker, Setting call, int least, int greatest) {
        for (int v : new int[] {least, greatest}) {
            long got = call.on(maker.desk(), v);
            due.isTrue(name + " " + v + " is taken, answered " + got, got >= 0);
        }
        for (int v : new int[] {least - 1, greatest + 1, LOW, HIGH}) {
            leavesAll(name + " " + v, maker, x -> call.on(x, v), BAD);
        }
    }

    /** A call that is not refused is kept, and undo() brings all back as it was. */
    void isChange(String call, Maker maker, Call made) {
        HallDesk before = maker.desk();
        HallDesk after = maker.desk();
        int kept = Math.min(8, before.count(5) + 1);
        due.isTrue(call + " is not refused", made.on(after) >= 0);
        due.is(call + " is kept: count(5)", after.count(5), kept);
        due.is(call + ", then undo()", after.undo(), kept - 1);
        // One that was kept ahead of it is kept no more, if there were 8: so the numbers of changes are left out.
        due.isTrue(call + " is taken back", withoutKept(after).equals(withoutKept(before)));
    }

    private static String withoutKept(HallDesk x) {
        return seen(x).replaceFirst("(counts( -?\\d+){5}) \\d+", "$1");
    }
}

/** Promises 26 to 31: claims and shares. */
public final class ClaimsTest {
    private static final int NONE = HallDesk.NONE, BAD = HallDesk.BAD, NO = HallDesk.NO;
    private static final int HIGH = Integer.MAX_VALUE, LOW = Integer.MIN_VALUE;
    private static final Due due = new Due();

    /** A desk with a hall for each row of ways, its price at the row's end. */
    private static HallDesk desk(int towns, int[][] waysAndPrice) {
        HallDesk x = new HallDesk();
        for (int t = 0; t < towns; t++) {
            x.town();
        }
        for (int h = 0; h < waysAndPrice.length; h++) {
            x.hall();
            x.sheet(h, 1, towns);
            for (int t = 0; t < towns; t++) {
                x.way(h, t, waysAndPrice[h][t]);
            }
            x.price(h, waysAndPrice[h][towns]);
        }
        return x;
    }

    private static void claims(HallDesk x, int... values) {
        for (int t = 0; t < values.length; t++) {
            x.claim(t, values[t]);
        }
    }

    private static void claimAndClaimed() {
        HallDesk x = desk(2, new int[][] {});
        due.promise(26);
        due.is("claim(0, 1000000)", x.claim(0, 1000000), 0);
        due.is("claim(0, 0)", x.claim(0, 0), 1000000);
        due.is("claim(1, 7)", x.claim(1, 7), 0);
        due.is("claim(1, 1000001)", x.claim(1, 1000001), BAD);
        due.is("claim(1, -1)", x.claim(1, -1), BAD);
        due.is("claim(1, LOW)", x.claim(1, LOW), BAD);
        due.is("claim(2, 1)", x.claim(2, 1), BAD);
        due.is("claim(-1, 1)", x.claim(-1, 1), BAD);
        due.is("claim(HIGH, 1)", x.claim(HIGH, 1), BAD);
        due.is("a claim is no change that is kept", x.count(5), 2);
        due.promise(27);
        due.is("claimed(0)", x.claimed(0), 0);
        due.is("claimed(1)", x.claimed(1), 7);
        due.is("claimed(2)", x.claimed(2), BAD);
        due.is("claimed(-1)", x.claimed(-1), BAD);
        due.is("claimed(LOW)", x.claimed(LOW), BAD);
    }

    private static void holds() {
        due.promise(28);
        HallDesk none = desk(2, new int[][] {});
        claims(none, 1000000, 5);
        due.is("without halls they hold", none.holds(), 1000005);
        due.is("without towns", new HallDesk().holds(), 0);
        HallDesk x = desk(2, new int[][] {{3, 4, 5}, {0, 9, 2}});
        x.people(1, 2);
        due.is("none claimed", x.holds(), 0);
        claims(x, 2, 13);
        due.is("hall 0: 5 above 8, hall 1: 2 above 0", x.holds(), 15);
        claims(x, 2, 14);
        due.is("hall 0: 6 above 8", x.holds(), -100);
        claims(x, 3, 13);
        due.is("hall 1: 3 above 0", x.holds(), -101);
        claims(x, 5, 14);
        due.is("both: the least", x.holds(), -100);
        x.people(1, 3);
        due.is("people count: 2 above 3, 2 above 12", x.holds(), -101);
        x.price(1, 5);
        due.is("the price counts", x.holds(), 19);
        claims(x, 9, 0);
        due.is("what is below does not pay for what is above", x.holds(), -100);
        x.lose(0);
        due.is("no ways to hall 0: 9 above 0 at hall 1", x.holds(), -101);
        HallDesk many = desk(1, new int[][] {{0, 9}, {0, 9}, {0, 9}, {0, 9}, {0, 9}, {0, 9}, {0, 1}});
        claims(many, 4);
        due.is("hall 6", many.holds(), -106);
    }

    private static void raise() {
        due.promise(29);
        HallDesk x = desk(2, new int[][] {{0, 0, 5}});
        claims(x, 9, 9);
        due.is("raise()", x.raise(), 5);
        due.is("by turns: town 0 is first", x.claimed(0), 3);
        due.is("by turns: town 1", x.claimed(1), 2);
        due.is("they hold", x.holds(), 5);
        due.is("it is no change that is kept", x.count(5), 7);
        HallDesk y = desk(3, new int[][] {{0, 4, 9, 6}, {7, 2, 2, 3}});
        due.is("raise() of two halls", y.raise(), 13);
        due.is("claimed(0): stopped by hall 0", y.claimed(0), 6);
        due.is("claimed(1)", y.claimed(1), 4);
        due.is("claimed(2)", y.claimed(2), 3);
        HallDesk far = desk(2, new int[][] {{1000, 0, 100000}});
        far.people(0, 20);
        due.is("2000 rounds", far.raise(), 4000);
        far.lose(0);
        due.is("2000 rounds, no ways", far.raise(), 4000);
        far.sheet(0, 1, 2);
        far.way(0, 1, 1);
        due.is("a price never met", far.raise(), 4000);
        far.price(0, 0);
        due.is("nothing to claim but ways", far.raise(), 1);
        due.is("the one with a way", far.claimed(1), 1);
        due.is("NO: no hall", desk(2, new int[][] {}).raise(), NO);
        HallDesk refused = desk(1, new int[][] {});
        claims(refused, 8);
        refused.raise();
        due.is("refused: claims stay", refused.claimed(0), 8);
        due.is("without towns", desk(0, new int[][] {{5}}).raise(), 0);
    }

    private static void fair() {
        due.promise(30);
        due.is("without halls", desk(2, new int[][] {}).fair(), NONE);
        due.is("without towns", desk(0, new int[][] {{5}}).fair(), 0);
        HallDesk x = desk(3, new int[][] {{1, 1, 1, 6}, {0, 9, 9, 5}});
        due.is("all cost 9: nothing claimed", x.fair(), 1);
        claims(x, 3, 3, 3);
        due.is("fair", x.fair(), 0);
        claims(x, 3, 3, 4);
        due.is("too much together", x.fair(), 1);
        claims(x, 5, 4, 0);
        due.is("town 0 just at its own cost, 0 and 1 above 8", x.fair(), 2 + 3);
        claims(x, 6, 3, 0);
        due.is("town 0 above its own cost", x.fair(), 2 + 1);
        claims(x, 0, 8, 1);
        due.is("town 1 above its own cost", x.fair(), 2 + 2);
        claims(x, 0, 0, 9);
        due.is("town 2 above its own cost", x.fair(), 2 + 4);
        claims(x, 0, 4, 5);
        due.is("towns 1 and 2 above 8", x.fair(), 2 + 6);
        claims(x, 1, 4, 4);
        due.is("at every cost", x.fair(), 0);
        x.price(0, 7);
        due.is("a change of prices", x.fair(), 1);
        x.undo();
        due.is("and back", x.fair(), 0);
    }

    private static void share() {
        due.promise(31);
        HallDesk none = desk(2, new int[][] {});
        due.is("without halls", none.share(0, 0), NONE);
        due.is("without halls, below", none.share(1, 1), NONE);
        due.is("BAD ahead of NONE", none.share(2, 0), BAD);
        HallDesk x = desk(3, new int[][] {{0, 0, 0, 7}});
        for (int t = 0; t < 3; t++) {
            due.is("share(" + t + ", 0)", x.share(t, 0), 7);
            due.is("share(" + t + ", 1)", x.share(t, 1), 3);
        }
        x.price(0, 6);
        due.is("in lowest terms, above", x.share(0, 0), 2);
        due.is("in lowest terms, below", x.share(0, 1), 1);
        x.price(0, 0);
        due.is("nothing, above", x.share(0, 0), 0);
        due.is("nothing, below", x.share(0, 1), 1);
        due.is("share(3, 0)", x.share(3, 0), BAD);
        due.is("share(-1, 0)", x.share(-1, 0), BAD);
        due.is("share(0, 2)", x.share(0, 2), BAD);
        due.is("share(0, -1)", x.share(0, -1), BAD);
        // Heaps cost 3, 5, 6 (0 and 1): town 0 pays 3 ahead of town 1, and 1 behind it.
        HallDesk y = desk(2, new int[][] {{0, 3, 3}, {3, 0, 5}});
        due.is("share(0, 0)", y.share(0, 0), 2);
        due.is("share(0, 1)", y.share(0, 1), 1);
        due.is("share(1, 0)", y.share(1, 0), 4);
        y.way(0, 1, 2);
        due.is("heaps cost 3, 5, 5: share(0, 0)", y.share(0, 0), 3);
        due.is("share(0, 1)", y.share(0, 1), 2);
        due.is("share(1, 0)", y.share(1, 0), 7);
        due.is("share(1, 1)", y.share(1, 1), 2);
        farShares();
    }

    // Numbers that only a long can tell above the line.
    private static void farShares() {
        HallDesk x = new HallDesk();
        for (int t = 0; t < 8; t++) {
            x.town();
            x.people(t, 20);
        }
        x.hall();
        x.price(0, 99999);
        due.is("above", x.share(7, 0), 20000000L * 8 + 99999);
        due.is("below", x.share(7, 1), 8);
    }

    public static void main(String[] args) {
        claimAndClaimed();
        holds();
        raise();
        fair();
        share();
        due.end("ClaimsTest");
    }
}

/** The boundary cases of the terms' sections 3 and 5 and of promises 26 to 31, a test for each such sentence. */
public final class ClaimsEdgesTest {
    private static final int NONE = Edge.NONE, BAD = Edge.BAD, NO = Edge.NO, NO_WAY = Edge.NO_WAY;
    private static final Due due = new Due();
    private static final Edge edge = new Edge(due);

    // ---- promises 26 and 27: claims

    private static void claimRange() {
        due.sentence("terms 3, promise 26", "The CLAIM of a TOWN is v (0 .. 1000000): what it was. BAD.");
        edge.range("claim", Edge::rich, (x, v) -> x.claim(1, v), 0, 1000000);
        HallDesk x = Edge.full();
        due.is("claim(7, 1000000): what it was", x.claim(7, 1000000), 0);
        due.is("claim(7, 0): what it was", x.claim(7, 0), 1000000);
        due.is("claimed(7)", x.claimed(7), 0);
    }

    private static void claimOfATown() {
        due.sentence("promises 26, 27", "The CLAIM of a TOWN. BAD: there is no such TOWN");
        edge.range("town of claim", Edge::rich, (x, v) -> x.claim(v, 5), 0, 2);
        edge.range("town of claimed", Edge::rich, (x, v) -> x.claimed(v), 0, 2);
        edge.range("town of claim, full", Edge::full, (x, v) -> x.claim(v, 5), 0, 7);
        edge.range("town of claimed, full", Edge::full, (x, v) -> x.claimed(v), 0, 7);
        due.is("claimed(0) without towns", new HallDesk().claimed(0), BAD);
    }

    // ---- promise 28: holds

    private static void holdsJust() {
        due.sentence("terms 3, promise 28", "What the CLAIM is above PEOPLE times its WAY, together, is not above the PRICE");
        HallDesk x = Edge.withPrices(Edge.withPeople(Edge.withWays(2, new int[] {4, 5}), 2, 3), 6);
        Edge.withClaims(x, 10, 19);
        due.is("2 above 8 and 4 above 15, at 6", x.holds(), 29);
        x.claim(0, 11);
        due.is("one above", x.holds(), -100);
        x.claim(0, 8);
        x.claim(1, 21);
        due.is("0 above 8 and 6 above 15", x.holds(), 29);
        x.claim(1, 22);
        due.is("one above", x.holds(), -100);
        x.claim(0, 0);
        due.is("what is below 8 does not help", x.holds(), -100);
    }

    private static void holdsLeastHall() {
        due.sentence("promise 28", "Else - 100 less the least HALL for which they do not");
        for (int first = 0; first < 7; first++) {
            HallDesk x = Edge.withClaims(Edge.desk(1, 7), 9);
            for (int h = 0; h < 7; h++) {
                x.sheet(h, 1, 1);
                x.price(h, h < first ? 9 : 8);
            }
            due.is("from hall " + first + " on", x.holds(), -100 - first);
        }
    }

    private static void holdsOfNothing() {
        due.sentence("promise 28", "All together, where there is no HALL, no TOWN, no CLAIM");
        due.is("no towns, no halls", new HallDesk().holds(), 0);
        due.is("no towns", Edge.desk(0, 7).holds(), 0);
        due.is("no claims", Edge.full().holds(), 0);
        HallDesk x = Edge.desk(8, 0);
        for (int t = 0; t < 8; t++) {
            x.claim(t, 1000000);
        }
        due.is("no halls", x.holds(), 8000000);
        x.hall();
        due.is("no ways: 1000000 is not above 1000000", x.holds(), 8000000);
        x.sheet(0, 1, 8);
        due.is("ways of 0: 8000000 above", x.holds(), -100);
    }

    // ---- promise 29: raise

    private static void raiseWithoutHalls() {
        due.sentence("promise 29", "NO: there is no HALL");
        edge.leavesAll("raise()", () -> Edge.withClaims(Edge.desk(3, 0), 4, 0, 1000000), x -> x.raise(), NO);
        edge.leavesAll("raise() on a new desk", HallDesk::new, x -> x.raise(), NO);
    }

    private static void raiseWithoutTowns() {
        due.sentence("promise 29", "The CLAIMS are RAISED: all together, 0 where there is no TOWN");
        due.is("raise()", Edge.withPrices(Edge.desk(0, 1), 9).raise(), 0);
    }

    private static void raiseFromNothing() {
        due.sentence("terms 3", "RAISED ones: all are 0 at first");
        HallDesk x = Edge.withPrices(Edge.withWays(2, new int[] {0, 0}), 4);
        Edge.withClaims(x, 1000000, 3);
        due.is("raise()", x.raise(), 4);
        due.is("claimed(0)", x.claimed(0), 2);
        due.is("claimed(1)", x.claimed(1), 2);
        due.is("raise() again", x.raise(), 4);
        due.is("claimed(0)", x.claimed(0), 2);
    }

    private static void raiseByNumbers() {
        due.sentence("terms 3", "TOWNS by their numbers: each CLAIM goes up by 1, if they hold then still");
        for (int price = 0; price <= 9; price++) {
            HallDesk x = Edge.withPrices(Edge.withWays(3, new int[] {0, 0, 0}), price);
            due.is("price " + price + ": raise()", x.raise(), price);
            for (int t = 0; t < 3; t++) {
                due.is("price " + price + ": claimed(" + t + ")", x.claimed(t), (price + 2 - t) / 3);
            }
        }
    }

    private static void raiseTillNoneIsRaised() {
        due.sentence("terms 3", "Till one whole round raises none");
        HallDesk x = Edge.withWays(4, new int[] {0, 50, 3, 0}, new int[] {9, 60, 9, 9});
        due.is("stopped ones do not stop others", x.raise(), 53);
        int[] claims = {0, 50, 3, 0};
        for (int t = 0; t < 4; t++) {
            due.is("claimed(" + t + ")", x.claimed(t), claims[t]);
        }
        HallDesk none = Edge.withWays(2, new int[] {0, 0});
        Edge.withClaims(none, 5, 5);
        due.is("the first round raises none", none.raise(), 0);
    }

    private static void raiseTwoThousandRounds() {
        due.sentence("terms 3", "Or 2000 rounds are done");
        int[][] rows = {{1999, 1999}, {2000, 2000}, {2001, 2000}, {100000, 2000}};
        for (int[] row : rows) {
            HallDesk x = Edge.withPrices(Edge.withWays(1, new int[] {0}), row[0]);
            due.is("price " + row[0] + ": raise()", x.raise(), row[1]);
        }
        int[][] ways = {{999, 1, 1999}, {999, 2, 2000}, {999, 3, 2000}, {1000, 0, 2000}, {1000, 1, 2000}};
        for (int[] row : ways) {
            HallDesk x = Edge.withPeople(Edge.withPrices(Edge.withWays(1, new int[] {row[0]}), row[1]), 2);
            due.is("way " + row[0] + ", price " + row[1] + ": raise()", x.raise(), row[2]);
        }
    }

    private static void raiseInTheLastRound() {
        due.sentence("terms 3", "Or 2000 rounds are done, the last of them for all TOWNS that it raises");
        int[][] rows = {{3998, 1999, 1999}, {3999, 2000, 1999}, {4000, 2000, 2000}, {4001, 2000, 2000}};
        for (int[] row : rows) {
            HallDesk x = Edge.withPrices(Edge.withWays(2, new int[] {0, 0}), row[0]);
            due.is("price " + row[0] + ": raise()", x.raise(), row[1] + row[2]);
            due.is("price " + row[0] + ": claimed(0)", x.claimed(0), row[1]);
            due.is("price " + row[0] + ": claimed(1)", x.claimed(1), row[2]);
        }
        HallDesk far = Edge.full();
        due.is("no ways at all: raise()", far.raise(), 16000);
        due.is("no ways at all: claimed(7)", far.claimed(7), 2000);
    }

    private static void raiseCountsEveryRound() {
        due.sentence("terms 3", "Or 2000 rounds are done: those that raise only some TOWNS count too");
        HallDesk x = Edge.withPrices(Edge.desk(3, 1), 5);
        x.sheet(0, 1, 2);
        due.is("raise()", x.raise(), 2005);
        int[] claims = {3, 2, 2000};
        for (int t = 0; t < 3; t++) {
            due.is("claimed(" + t + ")", x.claimed(t), claims[t]);
        }
    }

    private static void raiseAtManyHalls() {
        due.sentence("terms 3", "If they hold then still, for each HALL");
        // Towns 1 and 2 use up hall 1's price as they go from 1 to 2; town 0 then uses up hall 0's, from 2 to 5.
        HallDesk x = Edge.withPrices(Edge.withWays(3, new int[] {2, 2, 9}, new int[] {9, 1, 1}), 3, 2);
        due.is("raise()", x.raise(), 9);
        due.is("claimed(0)", x.claimed(0), 5);
        due.is("claimed(1)", x.claimed(1), 2);
        due.is("claimed(2)", x.claimed(2), 2);
        due.is("holds()", x.holds(), 9);
    }

    // ---- promise 30: fair

    private static void fairWithoutHalls() {
        due.sentence("terms 5, promise 30", "NONE: there are no HALLS");
        due.is("no towns", new HallDesk().fair(), NONE);
        due.is("towns, no claims", Edge.desk(8, 0).fair(), NONE);
        due.is("towns, claims", Edge.withClaims(Edge.desk(1, 0), 5).fair(), NONE);
    }

    private static void fairWithoutTowns() {
        due.sentence("terms 5, promise 30", "The empty HEAP costs 0: without TOWNS the CLAIMS are FAIR");
        due.is("fair()", Edge.withPrices(Edge.desk(0, 2), 5, 7).fair(), 0);
    }

    private static HallDesk shared() {
        return Edge.withPrices(Edge.withWays(3, new int[] {1, 2, 3}, new int[] {0, 50, 50}), 12, 11);
    }

    private static void fairTogether() {
        due.sentence("terms 5, promise 30", "Else 1, if together they are not what all cost");
        HallDesk x = shared();
        due.is("all cost 18, 18 claimed", Edge.withClaims(x, 6, 6, 6).fair(), 0);
        due.is("17 claimed", Edge.withClaims(x, 6, 6, 5).fair(), 1);
        due.is("19 claimed", Edge.withClaims(x, 6, 6, 7).fair(), 1);
        due.is("none claimed", Edge.withClaims(x, 0, 0, 0).fair(), 1);
        due.is("too much together stands ahead of a heap", Edge.withClaims(x, 12, 6, 6).fair(), 1);
        due.is("too little stands ahead of a heap", Edge.withClaims(x, 12, 0, 0).fair(), 1);
    }

    private static void fairHeaps() {
        due.sentence("terms 5, promise 30", "No HEAP's CLAIMS together are above what it costs; else 2 and the least HEAP");
        HallDesk x = shared();
        due.is("town 0 at what it costs, 11", Edge.withClaims(x, 11, 4, 3).fair(), 0);
        due.is("town 0 at 12", Edge.withClaims(x, 12, 3, 3).fair(), 2 + 1);
        due.is("town 1 at what it costs, 14", Edge.withClaims(x, 1, 14, 3).fair(), 0);
        due.is("town 1 at 15", Edge.withClaims(x, 0, 15, 3).fair(), 2 + 2);
        due.is("towns 0 and 1 at what they cost, 15", Edge.withClaims(x, 7, 8, 3).fair(), 0);
        due.is("towns 0 and 1 at 16", Edge.withClaims(x, 8, 8, 2).fair(), 2 + 3);
        due.is("town 2 at 16", Edge.withClaims(x, 1, 1, 16).fair(), 2 + 4);
        due.is("towns 1 and 2 at 18 of 17", Edge.withClaims(x, 0, 9, 9).fair(), 2 + 6);
    }

    private static void fairLeastHeap() {
        due.sentence("promise 30", "2 and the least HEAP (as bits) whose are above, of several");
        HallDesk x = Edge.withPrices(Edge.withWays(2, new int[] {0, 9}, new int[] {9, 0}), 4, 4);
        due.is("town 1 alone", Edge.withClaims(x, 2, 6).fair(), 2 + 2);
        due.is("town 0 alone", Edge.withClaims(x, 6, 2).fair(), 2 + 1);
        HallDesk y = Edge.withPrices(Edge.withWays(4, new int[] {0, 0, 9, 9}, new int[] {9, 9, 0, 0}), 4, 4);
        due.is("towns 0 and 1, each with 2 or 3 too", Edge.withClaims(y, 3, 3, 1, 1).fair(), 2 + 3);
        due.is("towns 2 and 3", Edge.withClaims(y, 0, 0, 4, 4).fair(), 2 + 12);
    }

    private static void fairGreatestHeap() {
        due.sentence("promise 30", "2 and the least HEAP, the greatest that it can be: all but TOWN 0 of eight");
        HallDesk x = Edge.withPrices(Edge.withWays(8, new int[] {7, 0, 0, 0, 0, 0, 0, 0}), 70);
        Edge.withClaims(x, 6, 11, 10, 10, 10, 10, 10, 10);
        due.is("fair()", x.fair(), 256);
        Edge.withClaims(x, 7, 10);
        due.is("fair()", x.fair(), 0);
    }

    private static void heapCostsLeast() {
        due.sentence("terms 5", "A HEAP of TOWNS costs the least PRICED COST of any SET for them alone");
        HallDesk x = Edge.withPrices(Edge.withWays(2, new int[] {0, 10}, new int[] {10, 0}, new int[] {2, 2}), 3, 3, 3);
        // Town 0 alone costs 3 (hall 0), town 1 alone 3 (hall 1), both 6 (halls 0 and 1), not 7 (hall 2).
        due.is("3 and 3", Edge.withClaims(x, 3, 3).fair(), 0);
        due.is("4 and 2", Edge.withClaims(x, 4, 2).fair(), 2 + 1);
        due.is("4 and 3", Edge.withClaims(x, 4, 3).fair(), 1);
        x.price(2, 1);
        due.is("hall 2 at 1: both cost 5", Edge.withClaims(x, 2, 3).fair(), 0);
    }

    // ---- promise 31: share

    private static void shareRanges() {
        due.sentence("promise 31", "A FRACTION (part 0 above, 1 below the line). BAD");
        edge.range("town of share", Edge::rich, (x, v) -> x.share(v, 0), 0, 2);
        edge.range("part of share", Edge::rich, (x, v) -> x.share(0, v), 0, 1);
        edge.range("town of share, full", Edge::full, (x, v) -> x.share(v, 1), 0, 7);
    }

    private static void shareWithoutHalls() {
        due.sentence("terms 5, promise 31", "NONE: there are no HALLS; BAD stands ahead of it");
        HallDesk x = Edge.desk(2, 0);
        due.is("share(0, 0)", x.share(0, 0), NONE);
        due.is("share(1, 1)", x.share(1, 1), NONE);
        due.is("share(2, 0)", x.share(2, 0), BAD);
        due.is("share(-1, 0)", x.share(-1, 0), BAD);
        due.is("share(0, 2)", x.share(0, 2), BAD);
        due.is("share(0, -1)", x.share(0, -1), BAD);
        due.is("without towns", Edge.desk(0, 1).share(0, 0), BAD);
    }

    private static void shareOfOneTown() {
        due.sentence("terms 5", "What the HEAP of it and those ahead costs more than those ahead alone (the empty HEAP 0)");
        HallDesk x = Edge.withPrices(Edge.withPeople(Edge.withWays(1, new int[] {5}), 4), 13);
        due.is("one town bears all, above", x.share(0, 0), 33);
        due.is("below", x.share(0, 1), 1);
    }

    private static void shareInLowestTerms() {
        due.sentence("terms", "A FRACTION is told above the line and below it, in lowest terms, below it above 0");
        int[][] rows = {{0, 0, 1}, {1, 1, 8}, {2, 1, 4}, {4, 1, 2}, {6, 3, 4}, {8, 1, 1}, {12, 3, 2}, {99999, 99999, 8}};
        for (int[] row : rows) {
            HallDesk x = Edge.withPrices(Edge.withWays(8, new int[] {0, 0, 0, 0, 0, 0, 0, 0}), row[0]);
            for (int t = 0; t < 8; t += 7) {
                due.is("price " + row[0] + ": share(" + t + ", 0)", x.share(t, 0), row[1]);
                due.is("price " + row[0] + ": share(" + t + ", 1)", x.share(t, 1), row[2]);
            }
        }
    }

    /** Hall h is for towns 0 to h alone, at a price of h + 1; the last one for all. */
    private static HallDesk steps() {
        HallDesk x = Edge.desk(8, 7);
        for (int h = 0; h < 7; h++) {
            x.sheet(h, 1, h == 6 ? 8 : h + 1);
            x.price(h, h + 1);
        }
        return x;
    }

    private static void shareOverAllOrders() {
        due.sentence("terms 5", "A TOWN's SHARE is the mean, over all orders of the TOWNS");
        // A heap costs the step of its last town; a step is borne in equal parts by all towns that need it.
        int[][] shares = {{1, 8}, {15, 56}, {73, 168}, {533, 840}, {743, 840}, {341, 280}, {481, 280}, {481, 280}};
        HallDesk x = steps();
        for (int t = 0; t < 8; t++) {
            due.is("share(" + t + ", 0)", x.share(t, 0), shares[t][0]);
            due.is("share(" + t + ", 1)", x.share(t, 1), shares[t][1]);
        }
    }

    private static void shareOfTheDearest() {
        due.sentence("terms 5", "SHARES of the greatest costs");
        HallDesk x = Edge.full();
        for (int t = 0; t < 8; t++) {
            x.people(t, 20);
        }
        for (int h = 0; h < 7; h++) {
            x.price(h, 100000 - h);
        }
        due.is("above", x.share(7, 0), (20L * NO_WAY * 8 + 99994) / 2);
        due.is("below", x.share(7, 1), 4);
    }

    private static void claims() {
        claimRange();
        claimOfATown();
        holdsJust();
        holdsLeastHall();
        holdsOfNothing();
    }

    private static void raises() {
        raiseWithoutHalls();
        raiseWithoutTowns();
        raiseFromNothing();
        raiseByNumbers();
        raiseTillNoneIsRaised();
        raiseTwoThousandRounds();
        raiseInTheLastRound();
        raiseCountsEveryRound();
        raiseAtManyHalls();
    }

    private static void fairs() {
        fairWithoutHalls();
        fairWithoutTowns();
        fairTogether();
        fairHeaps();
        fairLeastHeap();
        fairGreatestHeap();
        heapCostsLeast();
    }

    private static void shares() {
        shareRanges();
        shareWithoutHalls();
        shareOfOneTown();
        shareInLowestTerms();
        shareOverAllOrders();
        shareOfTheDearest();
    }

    public static void main(String[] args) {
        claims();
        raises();
        fairs();
        shares();
        due.end("ClaimsEdgesTest");
    }
}
